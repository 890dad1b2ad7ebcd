theorem dX9_count_76 : decode cX9_count 76 = .ok (.getfield 133, 3) := by decide +kernel
theorem dX9_count_79 : decode cX9_count 79 = .ok (.ireturn, 1) := by decide +kernel
theorem dX9_count_80 : decode cX9_count 80 = .ok (.aload_n 0, 1) := by decide +kernel
theorem dX9_count_81 : decode cX9_count 81 = .ok (.getfield 12, 3) := by decide +kernel
theorem dX9_count_84 : decode cX9_count 84 = .ok (.getfield 136, 3) := by decide +kernel
theorem dX9_count_87 : decode cX9_count 87 = .ok (.getfield 140, 3) := by decide +kernel
theorem dX9_count_90 : decode cX9_count 90 = .ok (.ireturn, 1) := by decide +kernel
theorem dX9_count_91 : decode cX9_count 91 = .ok (.aload_n 0, 1) := by decide +kernel
theorem dX9_count_92 : decode cX9_count 92 = .ok (.getfield 12, 3) := by decide +kernel
theorem dX9_count_95 : decode cX9_count 95 = .ok (.getfield 136, 3) := by decide +kernel
theorem dX9_count_98 : decode cX9_count 98 = .ok (.getfield 147, 3) := by decide +kernel
theorem dX9_count_101 : decode cX9_count 101 = .ok (.ireturn, 1) := by decide +kernel
theorem dX9_count_102 : decode cX9_count 102 = .ok (.aload_n 0, 1) := by decide +kernel
theorem dX9_count_103 : decode cX9_count 103 = .ok (.getfield 12, 3) := by decide +kernel
theorem dX9_count_106 : decode cX9_count 106 = .ok (.invokevirtual 219, 3) := by decide +kernel
theorem dX9_count_109 : decode cX9_count 109 = .ok (.ireturn, 1) := by decide +kernel
theorem dX9_count_110 : decode cX9_count 110 = .ok (.aload_n 0, 1) := by decide +kernel
theorem dX9_count_111 : decode cX9_count 111 = .ok (.getfield 12, 3) := by decide +kernel
theorem dX9_count_114 : decode cX9_count 114 = .ok (.invokevirtual 222, 3) := by decide +kernel
theorem dX9_count_117 : decode cX9_count 117 = .ok (.ireturn, 1) := by decide +kernel
theorem dX9_count_118 : decode cX9_count 118 = .ok (.aload_n 0, 1) := by decide +kernel
theorem dX9_count_119 : decode cX9_count 119 = .ok (.getfield 40, 3) := by decide +kernel
theorem dX9_count_122 : decode cX9_count 122 = .ok (.aload_n 0, 1) := by decide +kernel
theorem dX9_count_123 : decode cX9_count 123 = .ok (.getfield 12, 3) := by decide +kernel
theorem dX9_count_126 : decode cX9_count 126 = .ok (.invokevirtual 213, 3) := by decide +kernel
theorem dX9_count_129 : decode cX9_count 129 = .ok (.aload_n 0, 1) := by decide +kernel
theorem dX9_count_130 : decode cX9_count 130 = .ok (.getfield 40, 3) := by decide +kernel
theorem dX9_count_133 : decode cX9_count 133 = .ok (.aload_n 0, 1) := by decide +kernel
theorem dX9_count_134 : decode cX9_count 134 = .ok (.getfield 12, 3) := by decide +kernel
theorem dX9_count_137 : decode cX9_count 137 = .ok (.getfield 125, 3) := by decide +kernel
theorem dX9_count_140 : decode cX9_count 140 = .ok (.invokevirtual 225, 3) := by decide +kernel
theorem dX9_count_143 : decode cX9_count 143 = .ok (.ireturn, 1) := by decide +kernel
theorem dX9_count_144 : decode cX9_count 144 = .ok (.aload_n 0, 1) := by decide +kernel
theorem dX9_count_145 : decode cX9_count 145 = .ok (.getfield 19, 3) := by decide +kernel
theorem dX9_count_148 : decode cX9_count 148 = .ok (.getfield 184, 3) := by decide +kernel
theorem dX9_count_151 : decode cX9_count 151 = .ok (.ireturn, 1) := by decide +kernel
theorem dX9_measure_0 : decode cX9_measure 0 = .ok (.iload_n 1, 1) := by decide +kernel
theorem dX9_measure_1 : decode cX9_measure 1 = .ok (.iconst 0, 1) := by decide +kernel
theorem dX9_measure_2 : decode cX9_measure 2 = .ok (.bipush 6, 2) := by decide +kernel
theorem dX9_measure_4 : decode cX9_measure 4 = .ok (.invokestatic 89, 3) := by decide +kernel
theorem dX9_measure_7 : decode cX9_measure 7 = .ok (.aload_n 0, 1) := by decide +kernel
theorem dX9_measure_8 : decode cX9_measure 8 = .ok (.getfield 12, 3) := by decide +kernel
theorem dX9_measure_11 : decode cX9_measure 11 = .ok (.getfield 136, 3) := by decide +kernel
theorem dX9_measure_14 : decode cX9_measure 14 = .ok (.astore_n 2, 1) := by decide +kernel
theorem dX9_measure_15 : decode cX9_measure 15 = .ok (.iload_n 1, 1) := by decide +kernel
theorem dX9_measure_16 : decode cX9_measure 16 = .ok (.tableswitch 91 0 5 #[40, 53, 62, 72, 81, 86], 40) := by decide +kernel
theorem dX9_measure_56 : decode cX9_measure 56 = .ok (.aload_n 0, 1) := by decide +kernel
theorem dX9_measure_57 : decode cX9_measure 57 = .ok (.aload_n 0, 1) := by decide +kernel
theorem dX9_measure_58 : decode cX9_measure 58 = .ok (.getfield 12, 3) := by decide +kernel
theorem dX9_measure_61 : decode cX9_measure 61 = .ok (.getfield 125, 3) := by decide +kernel
theorem dX9_measure_64 : decode cX9_measure 64 = .ok (.iconst (-1), 1) := by decide +kernel
theorem dX9_measure_65 : decode cX9_measure 65 = .ok (.invokevirtual 228, 3) := by decide +kernel
theorem dX9_measure_68 : decode cX9_measure 68 = .ok (.dreturn, 1) := by decide +kernel
theorem dX9_measure_69 : decode cX9_measure 69 = .ok (.aload_n 2, 1) := by decide +kernel
theorem dX9_measure_70 : decode cX9_measure 70 = .ok (.aload_n 2, 1) := by decide +kernel
theorem dX9_measure_71 : decode cX9_measure 71 = .ok (.getfield 232, 3) := by decide +kernel
theorem dX9_measure_74 : decode cX9_measure 74 = .ok (.invokevirtual 236, 3) := by decide +kernel
theorem dX9_measure_77 : decode cX9_measure 77 = .ok (.dreturn, 1) := by decide +kernel
theorem dX9_measure_78 : decode cX9_measure 78 = .ok (.aload_n 2, 1) := by decide +kernel
theorem dX9_measure_79 : decode cX9_measure 79 = .ok (.aload_n 2, 1) := by decide +kernel
theorem dX9_measure_80 : decode cX9_measure 80 = .ok (.getfield 147, 3) := by decide +kernel
theorem dX9_measure_83 : decode cX9_measure 83 = .ok (.i2d, 1) := by decide +kernel
theorem dX9_measure_84 : decode cX9_measure 84 = .ok (.invokevirtual 236, 3) := by decide +kernel
theorem dX9_measure_87 : decode cX9_measure 87 = .ok (.dreturn, 1) := by decide +kernel
theorem dX9_measure_88 : decode cX9_measure 88 = .ok (.aload_n 2, 1) := by decide +kernel
theorem dX9_measure_89 : decode cX9_measure 89 = .ok (.aload_n 2, 1) := by decide +kernel
theorem dX9_measure_90 : decode cX9_measure 90 = .ok (.getfield 240, 3) := by decide +kernel
theorem dX9_measure_93 : decode cX9_measure 93 = .ok (.invokevirtual 236, 3) := by decide +kernel
theorem dX9_measure_96 : decode cX9_measure 96 = .ok (.dreturn, 1) := by decide +kernel
theorem dX9_measure_97 : decode cX9_measure 97 = .ok (.aload_n 2, 1) := by decide +kernel
theorem dX9_measure_98 : decode cX9_measure 98 = .ok (.invokevirtual 243, 3) := by decide +kernel
theorem dX9_measure_101 : decode cX9_measure 101 = .ok (.dreturn, 1) := by decide +kernel
theorem dX9_measure_102 : decode cX9_measure 102 = .ok (.aload_n 2, 1) := by decide +kernel
theorem dX9_measure_103 : decode cX9_measure 103 = .ok (.getfield 247, 3) := by decide +kernel
theorem dX9_measure_106 : decode cX9_measure 106 = .ok (.dreturn, 1) := by decide +kernel
theorem dX9_measure_107 : decode cX9_measure 107 = .ok (.aload_n 2, 1) := by decide +kernel
theorem dX9_measure_108 : decode cX9_measure 108 = .ok (.aload_n 2, 1) := by decide +kernel
theorem dX9_measure_109 : decode cX9_measure 109 = .ok (.getfield 232, 3) := by decide +kernel
theorem dX9_measure_112 : decode cX9_measure 112 = .ok (.invokevirtual 236, 3) := by decide +kernel
theorem dX9_measure_115 : decode cX9_measure 115 = .ok (.aload_n 0, 1) := by decide +kernel
theorem dX9_measure_116 : decode cX9_measure 116 = .ok (.aload_n 0, 1) := by decide +kernel
theorem dX9_measure_117 : decode cX9_measure 117 = .ok (.getfield 12, 3) := by decide +kernel
theorem dX9_measure_120 : decode cX9_measure 120 = .ok (.getfield 125, 3) := by decide +kernel
theorem dX9_measure_123 : decode cX9_measure 123 = .ok (.iconst (-1), 1) := by decide +kernel
theorem dX9_measure_124 : decode cX9_measure 124 = .ok (.invokevirtual 228, 3) := by decide +kernel
theorem dX9_measure_127 : decode cX9_measure 127 = .ok (.dsub, 1) := by decide +kernel
theorem dX9_measure_128 : decode cX9_measure 128 = .ok (.dreturn, 1) := by decide +kernel
theorem dX9_ifLimit_0 : decode cX9_ifLimit 0 = .ok (.iload_n 1, 1) := by decide +kernel
theorem dX9_ifLimit_1 : decode cX9_ifLimit 1 = .ok (.iconst 0, 1) := by decide +kernel
theorem dX9_ifLimit_2 : decode cX9_ifLimit 2 = .ok (.bipush 99, 2) := by decide +kernel
theorem dX9_ifLimit_4 : decode cX9_ifLimit 4 = .ok (.invokestatic 89, 3) := by decide +kernel
theorem dX9_ifLimit_7 : decode cX9_ifLimit 7 = .ok (.aload_n 0, 1) := by decide +kernel
theorem dX9_ifLimit_8 : decode cX9_ifLimit 8 = .ok (.iload_n 1, 1) := by decide +kernel
theorem dX9_ifLimit_9 : decode cX9_ifLimit 9 = .ok (.iconst (-1), 1) := by decide +kernel
theorem dX9_ifLimit_10 : decode cX9_ifLimit 10 = .ok (.invokevirtual 228, 3) := by decide +kernel
theorem dX9_ifLimit_13 : decode cX9_ifLimit 13 = .ok (.dreturn, 1) := by decide +kernel
theorem dX9_limitFor_0 : decode cX9_limitFor 0 = .ok (.iload_n 1, 1) := by decide +kernel
theorem dX9_limitFor_1 : decode cX9_limitFor 1 = .ok (.iconst 0, 1) := by decide +kernel
theorem dX9_limitFor_2 : decode cX9_limitFor 2 = .ok (.sipush 1000, 3) := by decide +kernel
theorem dX9_limitFor_5 : decode cX9_limitFor 5 = .ok (.invokestatic 89, 3) := by decide +kernel
theorem dX9_limitFor_8 : decode cX9_limitFor 8 = .ok (.aload_n 0, 1) := by decide +kernel
theorem dX9_limitFor_9 : decode cX9_limitFor 9 = .ok (.getfield 33, 3) := by decide +kernel
theorem dX9_limitFor_12 : decode cX9_limitFor 12 = .ok (.aload_n 0, 1) := by decide +kernel
theorem dX9_limitFor_13 : decode cX9_limitFor 13 = .ok (.getfield 12, 3) := by decide +kernel
theorem dX9_limitFor_16 : decode cX9_limitFor 16 = .ok (.iconst (-1), 1) := by decide +kernel
theorem dX9_limitFor_17 : decode cX9_limitFor 17 = .ok (.invokevirtual 202, 3) := by decide +kernel
theorem dX9_limitFor_20 : decode cX9_limitFor 20 = .ok (.aload_n 0, 1) := by decide +kernel
theorem dX9_limitFor_21 : decode cX9_limitFor 21 = .ok (.getfield 33, 3) := by decide +kernel
theorem dX9_limitFor_24 : decode cX9_limitFor 24 = .ok (.iconst 0, 1) := by decide +kernel
theorem dX9_limitFor_25 : decode cX9_limitFor 25 = .ok (.invokevirtual 206, 3) := by decide +kernel
theorem dX9_limitFor_28 : decode cX9_limitFor 28 = .ok (.iload_n 1, 1) := by decide +kernel
theorem dX9_limitFor_29 : decode cX9_limitFor 29 = .ok (.i2l, 1) := by decide +kernel
theorem dX9_limitFor_30 : decode cX9_limitFor 30 = .ok (.lmul, 1) := by decide +kernel
theorem dX9_limitFor_31 : decode cX9_limitFor 31 = .ok (.lstore_n 2, 1) := by decide +kernel
theorem dX9_limitFor_32 : decode cX9_limitFor 32 = .ok (.iconst 0, 1) := by decide +kernel
theorem dX9_limitFor_33 : decode cX9_limitFor 33 = .ok (.istore 4, 2) := by decide +kernel
theorem dX9_limitFor_35 : decode cX9_limitFor 35 = .ok (.iload 4, 2) := by decide +kernel
theorem dX9_limitFor_37 : decode cX9_limitFor 37 = .ok (.bipush 99, 2) := by decide +kernel
theorem dX9_limitFor_39 : decode cX9_limitFor 39 = .ok (.if_icmp .ge 30, 3) := by decide +kernel
theorem dX9_limitFor_42 : decode cX9_limitFor 42 = .ok (.aload_n 0, 1) := by decide +kernel
theorem dX9_limitFor_43 : decode cX9_limitFor 43 = .ok (.getfield 33, 3) := by decide +kernel
theorem dX9_limitFor_46 : decode cX9_limitFor 46 = .ok (.iload 4, 2) := by decide +kernel
theorem dX9_limitFor_48 : decode cX9_limitFor 48 = .ok (.invokevirtual 206, 3) := by decide +kernel
theorem dX9_limitFor_51 : decode cX9_limitFor 51 = .ok (.ldc2_w 250, 3) := by decide +kernel
theorem dX9_limitFor_54 : decode cX9_limitFor 54 = .ok (.lmul, 1) := by decide +kernel
theorem dX9_limitFor_55 : decode cX9_limitFor 55 = .ok (.lload_n 2, 1) := by decide +kernel
theorem dX9_limitFor_56 : decode cX9_limitFor 56 = .ok (.lcmp, 1) := by decide +kernel
theorem dX9_limitFor_57 : decode cX9_limitFor 57 = .ok (.ifCond .gt 6, 3) := by decide +kernel
theorem dX9_limitFor_60 : decode cX9_limitFor 60 = .ok (.iload 4, 2) := by decide +kernel
theorem dX9_limitFor_62 : decode cX9_limitFor 62 = .ok (.ireturn, 1) := by decide +kernel
theorem dX9_limitFor_63 : decode cX9_limitFor 63 = .ok (.iinc 4 1, 3) := by decide +kernel
theorem dX9_limitFor_66 : decode cX9_limitFor 66 = .ok (.goto (-31), 3) := by decide +kernel
theorem dX9_limitFor_69 : decode cX9_limitFor 69 = .ok (.bipush 99, 2) := by decide +kernel
theorem dX9_limitFor_71 : decode cX9_limitFor 71 = .ok (.ireturn, 1) := by decide +kernel
theorem dX9_greatest_0 : decode cX9_greatest 0 = .ok (.aload_n 0, 1) := by decide +kernel
theorem dX9_greatest_1 : decode cX9_greatest 1 = .ok (.getfield 47, 3) := by decide +kernel
theorem dX9_greatest_4 : decode cX9_greatest 4 = .ok (.aload_n 0, 1) := by decide +kernel
theorem dX9_greatest_5 : decode cX9_greatest 5 = .ok (.getfield 12, 3) := by decide +kernel
theorem dX9_greatest_8 : decode cX9_greatest 8 = .ok (.invokevirtual 252, 3) := by decide +kernel
theorem dX9_greatest_11 : decode cX9_greatest 11 = .ok (.aload_n 0, 1) := by decide +kernel
theorem dX9_greatest_12 : decode cX9_greatest 12 = .ok (.getfield 47, 3) := by decide +kernel
theorem dX9_greatest_15 : decode cX9_greatest 15 = .ok (.iload_n 1, 1) := by decide +kernel
theorem dX9_greatest_16 : decode cX9_greatest 16 = .ok (.ifCond .eq 13, 3) := by decide +kernel
theorem dX9_greatest_19 : decode cX9_greatest 19 = .ok (.aload_n 0, 1) := by decide +kernel
theorem dX9_greatest_20 : decode cX9_greatest 20 = .ok (.getfield 12, 3) := by decide +kernel
theorem dX9_greatest_23 : decode cX9_greatest 23 = .ok (.getfield 125, 3) := by decide +kernel
theorem dX9_greatest_26 : decode cX9_greatest 26 = .ok (.goto 4, 3) := by decide +kernel
theorem dX9_greatest_29 : decode cX9_greatest 29 = .ok (.iconst 0, 1) := by decide +kernel
theorem dX9_greatest_30 : decode cX9_greatest 30 = .ok (.invokevirtual 253, 3) := by decide +kernel
theorem dX9_greatest_33 : decode cX9_greatest 33 = .ok (.dreturn, 1) := by decide +kernel
theorem dX9_slightest_0 : decode cX9_slightest 0 = .ok (.iconst (-1), 1) := by decide +kernel
theorem dX9_slightest_1 : decode cX9_slightest 1 = .ok (.istore_n 1, 1) := by decide +kernel
theorem dX9_slightest_2 : decode cX9_slightest 2 = .ok (.ldc2_w 257, 3) := by decide +kernel
theorem dX9_slightest_5 : decode cX9_slightest 5 = .ok (.dstore_n 2, 1) := by decide +kernel
theorem dX9_slightest_6 : decode cX9_slightest 6 = .ok (.iconst 0, 1) := by decide +kernel
theorem dX9_slightest_7 : decode cX9_slightest 7 = .ok (.istore 4, 2) := by decide +kernel
theorem dX9_slightest_9 : decode cX9_slightest 9 = .ok (.iload 4, 2) := by decide +kernel
theorem dX9_slightest_11 : decode cX9_slightest 11 = .ok (.aload_n 0, 1) := by decide +kernel
theorem dX9_slightest_12 : decode cX9_slightest 12 = .ok (.getfield 12, 3) := by decide +kernel
theorem dX9_slightest_15 : decode cX9_slightest 15 = .ok (.getfield 58, 3) := by decide +kernel
theorem dX9_slightest_18 : decode cX9_slightest 18 = .ok (.if_icmp .ge 37, 3) := by decide +kernel
theorem dX9_slightest_21 : decode cX9_slightest 21 = .ok (.aload_n 0, 1) := by decide +kernel
theorem dX9_slightest_22 : decode cX9_slightest 22 = .ok (.aload_n 0, 1) := by decide +kernel
theorem dX9_slightest_23 : decode cX9_slightest 23 = .ok (.getfield 12, 3) := by decide +kernel
theorem dX9_slightest_26 : decode cX9_slightest 26 = .ok (.getfield 125, 3) := by decide +kernel
theorem dX9_slightest_29 : decode cX9_slightest 29 = .ok (.iload 4, 2) := by decide +kernel
theorem dX9_slightest_31 : decode cX9_slightest 31 = .ok (.invokevirtual 228, 3) := by decide +kernel
theorem dX9_slightest_34 : decode cX9_slightest 34 = .ok (.dstore 5, 2) := by decide +kernel
theorem dX9_slightest_36 : decode cX9_slightest 36 = .ok (.dload 5, 2) := by decide +kernel
theorem dX9_slightest_38 : decode cX9_slightest 38 = .ok (.dload_n 2, 1) := by decide +kernel
theorem dX9_slightest_39 : decode cX9_slightest 39 = .ok (.dcmp .l, 1) := by decide +kernel
theorem dX9_slightest_40 : decode cX9_slightest 40 = .ok (.ifCond .le 9, 3) := by decide +kernel
theorem dX9_slightest_43 : decode cX9_slightest 43 = .ok (.dload 5, 2) := by decide +kernel
theorem dX9_slightest_45 : decode cX9_slightest 45 = .ok (.dstore_n 2, 1) := by decide +kernel
theorem dX9_slightest_46 : decode cX9_slightest 46 = .ok (.iload 4, 2) := by decide +kernel
theorem dX9_slightest_48 : decode cX9_slightest 48 = .ok (.istore_n 1, 1) := by decide +kernel
theorem dX9_slightest_49 : decode cX9_slightest 49 = .ok (.iinc 4 1, 3) := by decide +kernel
theorem dX9_slightest_52 : decode cX9_slightest 52 = .ok (.goto (-43), 3) := by decide +kernel
theorem dX9_slightest_55 : decode cX9_slightest 55 = .ok (.iload_n 1, 1) := by decide +kernel
theorem dX9_slightest_56 : decode cX9_slightest 56 = .ok (.ireturn, 1) := by decide +kernel
theorem dX9_digest_0 : decode cX9_digest 0 = .ok (.ldc2_w 259, 3) := by decide +kernel
theorem dX9_digest_3 : decode cX9_digest 3 = .ok (.lstore_n 1, 1) := by decide +kernel
theorem dX9_digest_4 : decode cX9_digest 4 = .ok (.iconst 0, 1) := by decide +kernel
theorem dX9_digest_5 : decode cX9_digest 5 = .ok (.istore_n 3, 1) := by decide +kernel
theorem dX9_digest_6 : decode cX9_digest 6 = .ok (.iload_n 3, 1) := by decide +kernel
theorem dX9_digest_7 : decode cX9_digest 7 = .ok (.bipush 9, 2) := by decide +kernel
theorem dX9_digest_9 : decode cX9_digest 9 = .ok (.if_icmp .ge 20, 3) := by decide +kernel
theorem dX9_digest_12 : decode cX9_digest 12 = .ok (.lload_n 1, 1) := by decide +kernel
theorem dX9_digest_13 : decode cX9_digest 13 = .ok (.aload_n 0, 1) := by decide +kernel
theorem dX9_digest_14 : decode cX9_digest 14 = .ok (.iload_n 3, 1) := by decide +kernel
theorem dX9_digest_15 : decode cX9_digest 15 = .ok (.invokevirtual 261, 3) := by decide +kernel
theorem dX9_digest_18 : decode cX9_digest 18 = .ok (.i2l, 1) := by decide +kernel
theorem dX9_digest_19 : decode cX9_digest 19 = .ok (.invokestatic 264, 3) := by decide +kernel
theorem dX9_digest_22 : decode cX9_digest 22 = .ok (.lstore_n 1, 1) := by decide +kernel
theorem dX9_digest_23 : decode cX9_digest 23 = .ok (.iinc 3 1, 3) := by decide +kernel
theorem dX9_digest_26 : decode cX9_digest 26 = .ok (.goto (-20), 3) := by decide +kernel
theorem dX9_digest_29 : decode cX9_digest 29 = .ok (.iconst 0, 1) := by decide +kernel
theorem dX9_digest_30 : decode cX9_digest 30 = .ok (.istore_n 3, 1) := by decide +kernel
theorem dX9_digest_31 : decode cX9_digest 31 = .ok (.iload_n 3, 1) := by decide +kernel
theorem dX9_digest_32 : decode cX9_digest 32 = .ok (.aload_n 0, 1) := by decide +kernel
theorem dX9_digest_33 : decode cX9_digest 33 = .ok (.getfield 12, 3) := by decide +kernel
theorem dX9_digest_36 : decode cX9_digest 36 = .ok (.getfield 58, 3) := by decide +kernel
theorem dX9_digest_39 : decode cX9_digest 39 = .ok (.if_icmp .ge 16, 3) := by decide +kernel
theorem dX9_digest_42 : decode cX9_digest 42 = .ok (.aload_n 0, 1) := by decide +kernel
theorem dX9_digest_43 : decode cX9_digest 43 = .ok (.lload_n 1, 1) := by decide +kernel
theorem dX9_digest_44 : decode cX9_digest 44 = .ok (.iload_n 3, 1) := by decide +kernel
theorem dX9_digest_45 : decode cX9_digest 45 = .ok (.invokevirtual 268, 3) := by decide +kernel
theorem dX9_digest_48 : decode cX9_digest 48 = .ok (.lstore_n 1, 1) := by decide +kernel
theorem dX9_digest_49 : decode cX9_digest 49 = .ok (.iinc 3 1, 3) := by decide +kernel
theorem dX9_digest_52 : decode cX9_digest 52 = .ok (.goto (-21), 3) := by decide +kernel
theorem dX9_digest_55 : decode cX9_digest 55 = .ok (.iconst 0, 1) := by decide +kernel
theorem dX9_digest_56 : decode cX9_digest 56 = .ok (.istore_n 3, 1) := by decide +kernel
theorem dX9_digest_57 : decode cX9_digest 57 = .ok (.iload_n 3, 1) := by decide +kernel
theorem dX9_digest_58 : decode cX9_digest 58 = .ok (.bipush 10, 2) := by decide +kernel
theorem dX9_digest_60 : decode cX9_digest 60 = .ok (.if_icmp .gt 31, 3) := by decide +kernel
theorem dX9_digest_63 : decode cX9_digest 63 = .ok (.lload_n 1, 1) := by decide +kernel
theorem dX9_digest_64 : decode cX9_digest 64 = .ok (.aload_n 0, 1) := by decide +kernel
theorem dX9_digest_65 : decode cX9_digest 65 = .ok (.iload_n 3, 1) := by decide +kernel
theorem dX9_digest_66 : decode cX9_digest 66 = .ok (.iconst 0, 1) := by decide +kernel
theorem dX9_digest_67 : decode cX9_digest 67 = .ok (.invokevirtual 272, 3) := by decide +kernel
theorem dX9_digest_70 : decode cX9_digest 70 = .ok (.invokestatic 264, 3) := by decide +kernel
theorem dX9_digest_73 : decode cX9_digest 73 = .ok (.lstore_n 1, 1) := by decide +kernel
theorem dX9_digest_74 : decode cX9_digest 74 = .ok (.lload_n 1, 1) := by decide +kernel
theorem dX9_digest_75 : decode cX9_digest 75 = .ok (.aload_n 0, 1) := by decide +kernel
theorem dX9_digest_76 : decode cX9_digest 76 = .ok (.iload_n 3, 1) := by decide +kernel
theorem dX9_digest_77 : decode cX9_digest 77 = .ok (.iconst 1, 1) := by decide +kernel
theorem dX9_digest_78 : decode cX9_digest 78 = .ok (.invokevirtual 272, 3) := by decide +kernel
theorem dX9_digest_81 : decode cX9_digest 81 = .ok (.invokestatic 264, 3) := by decide +kernel
theorem dX9_digest_84 : decode cX9_digest 84 = .ok (.lstore_n 1, 1) := by decide +kernel
theorem dX9_digest_85 : decode cX9_digest 85 = .ok (.iinc 3 5, 3) := by decide +kernel
theorem dX9_digest_88 : decode cX9_digest 88 = .ok (.goto (-31), 3) := by decide +kernel
theorem dX9_digest_91 : decode cX9_digest 91 = .ok (.iconst 0, 1) := by decide +kernel
theorem dX9_digest_92 : decode cX9_digest 92 = .ok (.istore_n 3, 1) := by decide +kernel
theorem dX9_digest_93 : decode cX9_digest 93 = .ok (.iload_n 3, 1) := by decide +kernel
theorem dX9_digest_94 : decode cX9_digest 94 = .ok (.bipush 7, 2) := by decide +kernel
theorem dX9_digest_96 : decode cX9_digest 96 = .ok (.if_icmp .ge 22, 3) := by decide +kernel
theorem dX9_digest_99 : decode cX9_digest 99 = .ok (.lload_n 1, 1) := by decide +kernel
theorem dX9_digest_100 : decode cX9_digest 100 = .ok (.aload_n 0, 1) := by decide +kernel
theorem dX9_digest_101 : decode cX9_digest 101 = .ok (.iload_n 3, 1) := by decide +kernel
theorem dX9_digest_102 : decode cX9_digest 102 = .ok (.invokevirtual 276, 3) := by decide +kernel
theorem dX9_digest_105 : decode cX9_digest 105 = .ok (.invokestatic 279, 3) := by decide +kernel
theorem dX9_digest_108 : decode cX9_digest 108 = .ok (.invokestatic 264, 3) := by decide +kernel
theorem dX9_digest_111 : decode cX9_digest 111 = .ok (.lstore_n 1, 1) := by decide +kernel
theorem dX9_digest_112 : decode cX9_digest 112 = .ok (.iinc 3 1, 3) := by decide +kernel
theorem dX9_digest_115 : decode cX9_digest 115 = .ok (.goto (-22), 3) := by decide +kernel
theorem dX9_digest_118 : decode cX9_digest 118 = .ok (.lload_n 1, 1) := by decide +kernel
theorem dX9_digest_119 : decode cX9_digest 119 = .ok (.aload_n 0, 1) := by decide +kernel
theorem dX9_digest_120 : decode cX9_digest 120 = .ok (.iconst 5, 1) := by decide +kernel
theorem dX9_digest_121 : decode cX9_digest 121 = .ok (.invokevirtual 283, 3) := by decide +kernel
theorem dX9_digest_124 : decode cX9_digest 124 = .ok (.invokestatic 279, 3) := by decide +kernel
theorem dX9_digest_127 : decode cX9_digest 127 = .ok (.invokestatic 264, 3) := by decide +kernel
theorem dX9_digest_130 : decode cX9_digest 130 = .ok (.lstore_n 1, 1) := by decide +kernel
theorem dX9_digest_131 : decode cX9_digest 131 = .ok (.lload_n 1, 1) := by decide +kernel
theorem dX9_digest_132 : decode cX9_digest 132 = .ok (.aload_n 0, 1) := by decide +kernel
theorem dX9_digest_133 : decode cX9_digest 133 = .ok (.iconst 1, 1) := by decide +kernel
theorem dX9_digest_134 : decode cX9_digest 134 = .ok (.invokevirtual 286, 3) := by decide +kernel
theorem dX9_digest_137 : decode cX9_digest 137 = .ok (.invokestatic 279, 3) := by decide +kernel
theorem dX9_digest_140 : decode cX9_digest 140 = .ok (.invokestatic 264, 3) := by decide +kernel
theorem dX9_digest_143 : decode cX9_digest 143 = .ok (.lstore_n 1, 1) := by decide +kernel
theorem dX9_digest_144 : decode cX9_digest 144 = .ok (.lload_n 1, 1) := by decide +kernel
theorem dX9_digest_145 : decode cX9_digest 145 = .ok (.aload_n 0, 1) := by decide +kernel
theorem dX9_digest_146 : decode cX9_digest 146 = .ok (.bipush 100, 2) := by decide +kernel
theorem dX9_digest_148 : decode cX9_digest 148 = .ok (.invokevirtual 290, 3) := by decide +kernel
theorem dX9_digest_151 : decode cX9_digest 151 = .ok (.i2l, 1) := by decide +kernel
theorem dX9_digest_152 : decode cX9_digest 152 = .ok (.invokestatic 264, 3) := by decide +kernel
theorem dX9_digest_155 : decode cX9_digest 155 = .ok (.lstore_n 1, 1) := by decide +kernel
theorem dX9_digest_156 : decode cX9_digest 156 = .ok (.lload_n 1, 1) := by decide +kernel
theorem dX9_digest_157 : decode cX9_digest 157 = .ok (.aload_n 0, 1) := by decide +kernel
theorem dX9_digest_158 : decode cX9_digest 158 = .ok (.invokevirtual 293, 3) := by decide +kernel
theorem dX9_digest_161 : decode cX9_digest 161 = .ok (.i2l, 1) := by decide +kernel
theorem dX9_digest_162 : decode cX9_digest 162 = .ok (.invokestatic 264, 3) := by decide +kernel
theorem dX9_digest_165 : decode cX9_digest 165 = .ok (.lstore_n 1, 1) := by decide +kernel
theorem dX9_digest_166 : decode cX9_digest 166 = .ok (.lload_n 1, 1) := by decide +kernel
theorem dX9_digest_167 : decode cX9_digest 167 = .ok (.aload_n 0, 1) := by decide +kernel
theorem dX9_digest_168 : decode cX9_digest 168 = .ok (.getfield 26, 3) := by decide +kernel
theorem dX9_digest_171 : decode cX9_digest 171 = .ok (.getfield 156, 3) := by decide +kernel
theorem dX9_digest_174 : decode cX9_digest 174 = .ok (.i2l, 1) := by decide +kernel
theorem dX9_digest_175 : decode cX9_digest 175 = .ok (.invokestatic 264, 3) := by decide +kernel
theorem dX9_digest_178 : decode cX9_digest 178 = .ok (.lstore_n 1, 1) := by decide +kernel
theorem dX9_digest_179 : decode cX9_digest 179 = .ok (.iconst 0, 1) := by decide +kernel
theorem dX9_digest_180 : decode cX9_digest 180 = .ok (.istore_n 3, 1) := by decide +kernel
theorem dX9_digest_181 : decode cX9_digest 181 = .ok (.iload_n 3, 1) := by decide +kernel
theorem dX9_digest_182 : decode cX9_digest 182 = .ok (.aload_n 0, 1) := by decide +kernel
theorem dX9_digest_183 : decode cX9_digest 183 = .ok (.getfield 26, 3) := by decide +kernel
theorem dX9_digest_186 : decode cX9_digest 186 = .ok (.getfield 156, 3) := by decide +kernel
theorem dX9_digest_189 : decode cX9_digest 189 = .ok (.if_icmp .ge 23, 3) := by decide +kernel
theorem dX9_digest_192 : decode cX9_digest 192 = .ok (.lload_n 1, 1) := by decide +kernel
theorem dX9_digest_193 : decode cX9_digest 193 = .ok (.aload_n 0, 1) := by decide +kernel
theorem dX9_digest_194 : decode cX9_digest 194 = .ok (.getfield 26, 3) := by decide +kernel
theorem dX9_digest_197 : decode cX9_digest 197 = .ok (.iload_n 3, 1) := by decide +kernel
theorem dX9_digest_198 : decode cX9_digest 198 = .ok (.invokevirtual 296, 3) := by decide +kernel
theorem dX9_digest_201 : decode cX9_digest 201 = .ok (.i2l, 1) := by decide +kernel
theorem dX9_digest_202 : decode cX9_digest 202 = .ok (.invokestatic 264, 3) := by decide +kernel
theorem dX9_digest_205 : decode cX9_digest 205 = .ok (.lstore_n 1, 1) := by decide +kernel
theorem dX9_digest_206 : decode cX9_digest 206 = .ok (.iinc 3 1, 3) := by decide +kernel
theorem dX9_digest_209 : decode cX9_digest 209 = .ok (.goto (-28), 3) := by decide +kernel
theorem dX9_digest_212 : decode cX9_digest 212 = .ok (.lload_n 1, 1) := by decide +kernel
theorem dX9_digest_213 : decode cX9_digest 213 = .ok (.lreturn, 1) := by decide +kernel
theorem dX9_hashWithPart_0 : decode cX9_hashWithPart 0 = .ok (.lload_n 1, 1) := by decide +kernel
theorem dX9_hashWithPart_1 : decode cX9_hashWithPart 1 = .ok (.lstore 4, 2) := by decide +kernel
theorem dX9_hashWithPart_3 : decode cX9_hashWithPart 3 = .ok (.iconst 0, 1) := by decide +kernel
theorem dX9_hashWithPart_4 : decode cX9_hashWithPart 4 = .ok (.istore 6, 2) := by decide +kernel
theorem dX9_hashWithPart_6 : decode cX9_hashWithPart 6 = .ok (.iload 6, 2) := by decide +kernel
theorem dX9_hashWithPart_8 : decode cX9_hashWithPart 8 = .ok (.bipush 7, 2) := by decide +kernel
theorem dX9_hashWithPart_10 : decode cX9_hashWithPart 10 = .ok (.if_icmp .ge 24, 3) := by decide +kernel
theorem dX9_hashWithPart_13 : decode cX9_hashWithPart 13 = .ok (.lload 4, 2) := by decide +kernel
theorem dX9_hashWithPart_15 : decode cX9_hashWithPart 15 = .ok (.aload_n 0, 1) := by decide +kernel
theorem dX9_hashWithPart_16 : decode cX9_hashWithPart 16 = .ok (.iload_n 3, 1) := by decide +kernel
theorem dX9_hashWithPart_17 : decode cX9_hashWithPart 17 = .ok (.iload 6, 2) := by decide +kernel
theorem dX9_hashWithPart_19 : decode cX9_hashWithPart 19 = .ok (.invokevirtual 299, 3) := by decide +kernel
theorem dX9_hashWithPart_22 : decode cX9_hashWithPart 22 = .ok (.i2l, 1) := by decide +kernel
theorem dX9_hashWithPart_23 : decode cX9_hashWithPart 23 = .ok (.invokestatic 264, 3) := by decide +kernel
theorem dX9_hashWithPart_26 : decode cX9_hashWithPart 26 = .ok (.lstore 4, 2) := by decide +kernel
theorem dX9_hashWithPart_28 : decode cX9_hashWithPart 28 = .ok (.iinc 6 1, 3) := by decide +kernel
theorem dX9_hashWithPart_31 : decode cX9_hashWithPart 31 = .ok (.goto (-25), 3) := by decide +kernel
theorem dX9_hashWithPart_34 : decode cX9_hashWithPart 34 = .ok (.iconst 0, 1) := by decide +kernel
theorem dX9_hashWithPart_35 : decode cX9_hashWithPart 35 = .ok (.istore 6, 2) := by decide +kernel
theorem dX9_hashWithPart_37 : decode cX9_hashWithPart 37 = .ok (.iload 6, 2) := by decide +kernel
theorem dX9_hashWithPart_39 : decode cX9_hashWithPart 39 = .ok (.bipush 6, 2) := by decide +kernel
theorem dX9_hashWithPart_41 : decode cX9_hashWithPart 41 = .ok (.if_icmp .ge 30, 3) := by decide +kernel
theorem dX9_hashWithPart_44 : decode cX9_hashWithPart 44 = .ok (.lload 4, 2) := by decide +kernel
theorem dX9_hashWithPart_46 : decode cX9_hashWithPart 46 = .ok (.aload_n 0, 1) := by decide +kernel
theorem dX9_hashWithPart_47 : decode cX9_hashWithPart 47 = .ok (.getfield 12, 3) := by decide +kernel
theorem dX9_hashWithPart_50 : decode cX9_hashWithPart 50 = .ok (.getfield 92, 3) := by decide +kernel
theorem dX9_hashWithPart_53 : decode cX9_hashWithPart 53 = .ok (.iload_n 3, 1) := by decide +kernel
theorem dX9_hashWithPart_54 : decode cX9_hashWithPart 54 = .ok (.iload 6, 2) := by decide +kernel
theorem dX9_hashWithPart_56 : decode cX9_hashWithPart 56 = .ok (.invokevirtual 96, 3) := by decide +kernel
theorem dX9_hashWithPart_59 : decode cX9_hashWithPart 59 = .ok (.i2l, 1) := by decide +kernel
theorem dX9_hashWithPart_60 : decode cX9_hashWithPart 60 = .ok (.invokestatic 264, 3) := by decide +kernel
theorem dX9_hashWithPart_63 : decode cX9_hashWithPart 63 = .ok (.lstore 4, 2) := by decide +kernel
theorem dX9_hashWithPart_65 : decode cX9_hashWithPart 65 = .ok (.iinc 6 1, 3) := by decide +kernel
theorem dX9_hashWithPart_68 : decode cX9_hashWithPart 68 = .ok (.goto (-31), 3) := by decide +kernel
theorem dX9_hashWithPart_71 : decode cX9_hashWithPart 71 = .ok (.iconst 0, 1) := by decide +kernel
theorem dX9_hashWithPart_72 : decode cX9_hashWithPart 72 = .ok (.istore 6, 2) := by decide +kernel
theorem dX9_hashWithPart_74 : decode cX9_hashWithPart 74 = .ok (.iload 6, 2) := by decide +kernel
theorem dX9_hashWithPart_76 : decode cX9_hashWithPart 76 = .ok (.bipush 6, 2) := by decide +kernel
theorem dX9_hashWithPart_78 : decode cX9_hashWithPart 78 = .ok (.if_icmp .ge 30, 3) := by decide +kernel
theorem dX9_hashWithPart_81 : decode cX9_hashWithPart 81 = .ok (.lload 4, 2) := by decide +kernel
theorem dX9_hashWithPart_83 : decode cX9_hashWithPart 83 = .ok (.aload_n 0, 1) := by decide +kernel
theorem dX9_hashWithPart_84 : decode cX9_hashWithPart 84 = .ok (.getfield 12, 3) := by decide +kernel
theorem dX9_hashWithPart_87 : decode cX9_hashWithPart 87 = .ok (.getfield 113, 3) := by decide +kernel
theorem dX9_hashWithPart_90 : decode cX9_hashWithPart 90 = .ok (.iload_n 3, 1) := by decide +kernel
theorem dX9_hashWithPart_91 : decode cX9_hashWithPart 91 = .ok (.iload 6, 2) := by decide +kernel
theorem dX9_hashWithPart_93 : decode cX9_hashWithPart 93 = .ok (.invokevirtual 96, 3) := by decide +kernel
theorem dX9_hashWithPart_96 : decode cX9_hashWithPart 96 = .ok (.i2l, 1) := by decide +kernel
theorem dX9_hashWithPart_97 : decode cX9_hashWithPart 97 = .ok (.invokestatic 264, 3) := by decide +kernel
theorem dX9_hashWithPart_100 : decode cX9_hashWithPart 100 = .ok (.lstore 4, 2) := by decide +kernel
theorem dX9_hashWithPart_102 : decode cX9_hashWithPart 102 = .ok (.iinc 6 1, 3) := by decide +kernel
theorem dX9_hashWithPart_105 : decode cX9_hashWithPart 105 = .ok (.goto (-31), 3) := by decide +kernel
theorem dX9_hashWithPart_108 : decode cX9_hashWithPart 108 = .ok (.lload 4, 2) := by decide +kernel
theorem dX9_hashWithPart_110 : decode cX9_hashWithPart 110 = .ok (.aload_n 0, 1) := by decide +kernel
theorem dX9_hashWithPart_111 : decode cX9_hashWithPart 111 = .ok (.iload_n 3, 1) := by decide +kernel
theorem dX9_hashWithPart_112 : decode cX9_hashWithPart 112 = .ok (.invokevirtual 302, 3) := by decide +kernel
theorem dX9_hashWithPart_115 : decode cX9_hashWithPart 115 = .ok (.i2l, 1) := by decide +kernel
theorem dX9_hashWithPart_116 : decode cX9_hashWithPart 116 = .ok (.invokestatic 264, 3) := by decide +kernel
theorem dX9_hashWithPart_119 : decode cX9_hashWithPart 119 = .ok (.lreturn, 1) := by decide +kernel
theorem dX9_hashWith_0 : decode cX9_hashWith 0 = .ok (.ldc2_w 305, 3) := by decide +kernel
theorem dX9_hashWith_3 : decode cX9_hashWith 3 = .ok (.lload_n 0, 1) := by decide +kernel
theorem dX9_hashWith_4 : decode cX9_hashWith 4 = .ok (.lmul, 1) := by decide +kernel
theorem dX9_hashWith_5 : decode cX9_hashWith 5 = .ok (.lload_n 2, 1) := by decide +kernel
theorem dX9_hashWith_6 : decode cX9_hashWith 6 = .ok (.ladd, 1) := by decide +kernel
theorem dX9_hashWith_7 : decode cX9_hashWith 7 = .ok (.lreturn, 1) := by decide +kernel
theorem dX9_bitsOf_0 : decode cX9_bitsOf 0 = .ok (.dload_n 0, 1) := by decide +kernel
theorem dX9_bitsOf_1 : decode cX9_bitsOf 1 = .ok (.dconst 0, 1) := by decide +kernel
theorem dX9_bitsOf_2 : decode cX9_bitsOf 2 = .ok (.dcmp .l, 1) := by decide +kernel
theorem dX9_bitsOf_3 : decode cX9_bitsOf 3 = .ok (.ifCond .ne 5, 3) := by decide +kernel
theorem dX9_bitsOf_6 : decode cX9_bitsOf 6 = .ok (.lconst 0, 1) := by decide +kernel
theorem dX9_bitsOf_7 : decode cX9_bitsOf 7 = .ok (.lreturn, 1) := by decide +kernel
theorem dX9_bitsOf_8 : decode cX9_bitsOf 8 = .ok (.dload_n 0, 1) := by decide +kernel
theorem dX9_bitsOf_9 : decode cX9_bitsOf 9 = .ok (.dconst 0, 1) := by decide +kernel
theorem dX9_bitsOf_10 : decode cX9_bitsOf 10 = .ok (.dcmp .g, 1) := by decide +kernel
theorem dX9_bitsOf_11 : decode cX9_bitsOf 11 = .ok (.ifCond .ge 8, 3) := by decide +kernel
theorem dX9_bitsOf_14 : decode cX9_bitsOf 14 = .ok (.dload_n 0, 1) := by decide +kernel
theorem dX9_bitsOf_15 : decode cX9_bitsOf 15 = .ok (.dneg, 1) := by decide +kernel
theorem dX9_bitsOf_16 : decode cX9_bitsOf 16 = .ok (.goto 4, 3) := by decide +kernel
theorem dX9_bitsOf_19 : decode cX9_bitsOf 19 = .ok (.dload_n 0, 1) := by decide +kernel
theorem dX9_bitsOf_20 : decode cX9_bitsOf 20 = .ok (.dstore_n 2, 1) := by decide +kernel
theorem dX9_bitsOf_21 : decode cX9_bitsOf 21 = .ok (.iconst 0, 1) := by decide +kernel
theorem dX9_bitsOf_22 : decode cX9_bitsOf 22 = .ok (.istore 4, 2) := by decide +kernel
theorem dX9_bitsOf_24 : decode cX9_bitsOf 24 = .ok (.iconst 0, 1) := by decide +kernel
theorem dX9_bitsOf_25 : decode cX9_bitsOf 25 = .ok (.istore 5, 2) := by decide +kernel
theorem dX9_bitsOf_27 : decode cX9_bitsOf 27 = .ok (.iload 5, 2) := by decide +kernel
theorem dX9_bitsOf_29 : decode cX9_bitsOf 29 = .ok (.sipush 1100, 3) := by decide +kernel
theorem dX9_bitsOf_32 : decode cX9_bitsOf 32 = .ok (.if_icmp .ge 26, 3) := by decide +kernel
theorem dX9_bitsOf_35 : decode cX9_bitsOf 35 = .ok (.dload_n 2, 1) := by decide +kernel
theorem dX9_bitsOf_36 : decode cX9_bitsOf 36 = .ok (.ldc2_w 307, 3) := by decide +kernel
theorem dX9_bitsOf_39 : decode cX9_bitsOf 39 = .ok (.dcmp .l, 1) := by decide +kernel
theorem dX9_bitsOf_40 : decode cX9_bitsOf 40 = .ok (.ifCond .lt 18, 3) := by decide +kernel
theorem dX9_bitsOf_43 : decode cX9_bitsOf 43 = .ok (.dload_n 2, 1) := by decide +kernel
theorem dX9_bitsOf_44 : decode cX9_bitsOf 44 = .ok (.ldc2_w 307, 3) := by decide +kernel
theorem dX9_bitsOf_47 : decode cX9_bitsOf 47 = .ok (.ddiv, 1) := by decide +kernel
theorem dX9_bitsOf_48 : decode cX9_bitsOf 48 = .ok (.dstore_n 2, 1) := by decide +kernel
theorem dX9_bitsOf_49 : decode cX9_bitsOf 49 = .ok (.iinc 4 1, 3) := by decide +kernel
theorem dX9_bitsOf_52 : decode cX9_bitsOf 52 = .ok (.iinc 5 1, 3) := by decide +kernel
theorem dX9_bitsOf_55 : decode cX9_bitsOf 55 = .ok (.goto (-28), 3) := by decide +kernel
theorem dX9_bitsOf_58 : decode cX9_bitsOf 58 = .ok (.iconst 0, 1) := by decide +kernel
theorem dX9_bitsOf_59 : decode cX9_bitsOf 59 = .ok (.istore 5, 2) := by decide +kernel
theorem dX9_bitsOf_61 : decode cX9_bitsOf 61 = .ok (.iload 5, 2) := by decide +kernel
theorem dX9_bitsOf_63 : decode cX9_bitsOf 63 = .ok (.sipush 1100, 3) := by decide +kernel
theorem dX9_bitsOf_66 : decode cX9_bitsOf 66 = .ok (.if_icmp .ge 24, 3) := by decide +kernel
theorem dX9_bitsOf_69 : decode cX9_bitsOf 69 = .ok (.dload_n 2, 1) := by decide +kernel
theorem dX9_bitsOf_70 : decode cX9_bitsOf 70 = .ok (.dconst 1, 1) := by decide +kernel
theorem dX9_bitsOf_71 : decode cX9_bitsOf 71 = .ok (.dcmp .g, 1) := by decide +kernel
theorem dX9_bitsOf_72 : decode cX9_bitsOf 72 = .ok (.ifCond .ge 18, 3) := by decide +kernel
theorem dX9_bitsOf_75 : decode cX9_bitsOf 75 = .ok (.dload_n 2, 1) := by decide +kernel
theorem dX9_bitsOf_76 : decode cX9_bitsOf 76 = .ok (.ldc2_w 307, 3) := by decide +kernel
theorem dX9_bitsOf_79 : decode cX9_bitsOf 79 = .ok (.dmul, 1) := by decide +kernel
theorem dX9_bitsOf_80 : decode cX9_bitsOf 80 = .ok (.dstore_n 2, 1) := by decide +kernel
theorem dX9_bitsOf_81 : decode cX9_bitsOf 81 = .ok (.iinc 4 (-1), 3) := by decide +kernel
theorem dX9_bitsOf_84 : decode cX9_bitsOf 84 = .ok (.iinc 5 1, 3) := by decide +kernel
theorem dX9_bitsOf_87 : decode cX9_bitsOf 87 = .ok (.goto (-26), 3) := by decide +kernel
theorem dX9_bitsOf_90 : decode cX9_bitsOf 90 = .ok (.dload_n 2, 1) := by decide +kernel
theorem dX9_bitsOf_91 : decode cX9_bitsOf 91 = .ok (.dconst 1, 1) := by decide +kernel
theorem dX9_bitsOf_92 : decode cX9_bitsOf 92 = .ok (.dsub, 1) := by decide +kernel
theorem dX9_bitsOf_93 : decode cX9_bitsOf 93 = .ok (.ldc2_w 309, 3) := by decide +kernel
theorem dX9_bitsOf_96 : decode cX9_bitsOf 96 = .ok (.dmul, 1) := by decide +kernel
theorem dX9_bitsOf_97 : decode cX9_bitsOf 97 = .ok (.d2l, 1) := by decide +kernel
theorem dX9_bitsOf_98 : decode cX9_bitsOf 98 = .ok (.lstore 5, 2) := by decide +kernel
theorem dX9_bitsOf_100 : decode cX9_bitsOf 100 = .ok (.dload_n 0, 1) := by decide +kernel
theorem dX9_bitsOf_101 : decode cX9_bitsOf 101 = .ok (.dconst 0, 1) := by decide +kernel
theorem dX9_bitsOf_102 : decode cX9_bitsOf 102 = .ok (.dcmp .g, 1) := by decide +kernel
theorem dX9_bitsOf_103 : decode cX9_bitsOf 103 = .ok (.ifCond .ge 9, 3) := by decide +kernel
theorem dX9_bitsOf_106 : decode cX9_bitsOf 106 = .ok (.ldc2_w 313, 3) := by decide +kernel
theorem dX9_bitsOf_109 : decode cX9_bitsOf 109 = .ok (.goto 4, 3) := by decide +kernel
theorem dX9_bitsOf_112 : decode cX9_bitsOf 112 = .ok (.lconst 0, 1) := by decide +kernel
theorem dX9_bitsOf_113 : decode cX9_bitsOf 113 = .ok (.lstore 7, 2) := by decide +kernel
theorem dX9_bitsOf_115 : decode cX9_bitsOf 115 = .ok (.lload 7, 2) := by decide +kernel
theorem dX9_bitsOf_117 : decode cX9_bitsOf 117 = .ok (.iload 4, 2) := by decide +kernel
theorem dX9_bitsOf_119 : decode cX9_bitsOf 119 = .ok (.sipush 1023, 3) := by decide +kernel
theorem dX9_bitsOf_122 : decode cX9_bitsOf 122 = .ok (.iadd, 1) := by decide +kernel
theorem dX9_bitsOf_123 : decode cX9_bitsOf 123 = .ok (.i2l, 1) := by decide +kernel
theorem dX9_bitsOf_124 : decode cX9_bitsOf 124 = .ok (.bipush 52, 2) := by decide +kernel
theorem dX9_bitsOf_126 : decode cX9_bitsOf 126 = .ok (.lshl, 1) := by decide +kernel
theorem dX9_bitsOf_127 : decode cX9_bitsOf 127 = .ok (.lor, 1) := by decide +kernel
theorem dX9_bitsOf_128 : decode cX9_bitsOf 128 = .ok (.lload 5, 2) := by decide +kernel
theorem dX9_bitsOf_130 : decode cX9_bitsOf 130 = .ok (.lor, 1) := by decide +kernel
theorem dX9_bitsOf_131 : decode cX9_bitsOf 131 = .ok (.lreturn, 1) := by decide +kernel
theorem dX9_oddsFor_0 : decode cX9_oddsFor 0 = .ok (.aload_n 0, 1) := by decide +kernel
theorem dX9_oddsFor_1 : decode cX9_oddsFor 1 = .ok (.getfield 33, 3) := by decide +kernel
theorem dX9_oddsFor_4 : decode cX9_oddsFor 4 = .ok (.aload_n 0, 1) := by decide +kernel
theorem dX9_oddsFor_5 : decode cX9_oddsFor 5 = .ok (.getfield 12, 3) := by decide +kernel
theorem dX9_oddsFor_8 : decode cX9_oddsFor 8 = .ok (.iload_n 2, 1) := by decide +kernel
theorem dX9_oddsFor_9 : decode cX9_oddsFor 9 = .ok (.invokevirtual 202, 3) := by decide +kernel
theorem dX9_oddsFor_12 : decode cX9_oddsFor 12 = .ok (.aload_n 0, 1) := by decide +kernel
theorem dX9_oddsFor_13 : decode cX9_oddsFor 13 = .ok (.getfield 33, 3) := by decide +kernel
theorem dX9_oddsFor_16 : decode cX9_oddsFor 16 = .ok (.iload_n 1, 1) := by decide +kernel
theorem dX9_oddsFor_17 : decode cX9_oddsFor 17 = .ok (.invokevirtual 315, 3) := by decide +kernel
theorem dX9_oddsFor_20 : decode cX9_oddsFor 20 = .ok (.dreturn, 1) := by decide +kernel
theorem dX9_requirePart_0 : decode cX9_requirePart 0 = .ok (.iload_n 1, 1) := by decide +kernel
theorem dX9_requirePart_1 : decode cX9_requirePart 1 = .ok (.ifCond .lt 14, 3) := by decide +kernel
theorem dX9_requirePart_4 : decode cX9_requirePart 4 = .ok (.iload_n 1, 1) := by decide +kernel
theorem dX9_requirePart_5 : decode cX9_requirePart 5 = .ok (.aload_n 0, 1) := by decide +kernel
theorem dX9_requirePart_6 : decode cX9_requirePart 6 = .ok (.getfield 12, 3) := by decide +kernel
theorem dX9_requirePart_9 : decode cX9_requirePart 9 = .ok (.getfield 58, 3) := by decide +kernel
theorem dX9_requirePart_12 : decode cX9_requirePart 12 = .ok (.if_icmp .lt 14, 3) := by decide +kernel
theorem dX9_requirePart_15 : decode cX9_requirePart 15 = .ok (.new 318, 3) := by decide +kernel
theorem dX9_requirePart_18 : decode cX9_requirePart 18 = .ok (.dup, 1) := by decide +kernel
theorem dX9_requirePart_19 : decode cX9_requirePart 19 = .ok (.ldc_w 320, 3) := by decide +kernel
theorem dX9_requirePart_22 : decode cX9_requirePart 22 = .ok (.invokespecial 322, 3) := by decide +kernel
theorem dX9_requirePart_25 : decode cX9_requirePart 25 = .ok (.athrow, 1) := by decide +kernel
theorem dX9_requirePart_26 : decode cX9_requirePart 26 = .ok (.return_, 1) := by decide +kernel
theorem dX9_requireLoad_0 : decode cX9_requireLoad 0 = .ok (.iload_n 0, 1) := by decide +kernel
theorem dX9_requireLoad_1 : decode cX9_requireLoad 1 = .ok (.ifCond .lt 9, 3) := by decide +kernel
theorem dX9_requireLoad_4 : decode cX9_requireLoad 4 = .ok (.iload_n 0, 1) := by decide +kernel
theorem dX9_requireLoad_5 : decode cX9_requireLoad 5 = .ok (.bipush 6, 2) := by decide +kernel
theorem dX9_requireLoad_7 : decode cX9_requireLoad 7 = .ok (.if_icmp .lt 14, 3) := by decide +kernel
theorem dX9_requireLoad_10 : decode cX9_requireLoad 10 = .ok (.new 318, 3) := by decide +kernel
theorem dX9_requireLoad_13 : decode cX9_requireLoad 13 = .ok (.dup, 1) := by decide +kernel
theorem dX9_requireLoad_14 : decode cX9_requireLoad 14 = .ok (.ldc_w 323, 3) := by decide +kernel
theorem dX9_requireLoad_17 : decode cX9_requireLoad 17 = .ok (.invokespecial 322, 3) := by decide +kernel
theorem dX9_requireLoad_20 : decode cX9_requireLoad 20 = .ok (.athrow, 1) := by decide +kernel
theorem dX9_requireLoad_21 : decode cX9_requireLoad 21 = .ok (.return_, 1) := by decide +kernel
theorem dX9_requireRange_0 : decode cX9_requireRange 0 = .ok (.iload_n 0, 1) := by decide +kernel
theorem dX9_requireRange_1 : decode cX9_requireRange 1 = .ok (.iload_n 1, 1) := by decide +kernel
theorem dX9_requireRange_2 : decode cX9_requireRange 2 = .ok (.if_icmp .lt 8, 3) := by decide +kernel
theorem dX9_requireRange_5 : decode cX9_requireRange 5 = .ok (.iload_n 0, 1) := by decide +kernel
theorem dX9_requireRange_6 : decode cX9_requireRange 6 = .ok (.iload_n 2, 1) := by decide +kernel
theorem dX9_requireRange_7 : decode cX9_requireRange 7 = .ok (.if_icmp .le 14, 3) := by decide +kernel
theorem dX9_requireRange_10 : decode cX9_requireRange 10 = .ok (.new 51, 3) := by decide +kernel
theorem dX9_requireRange_13 : decode cX9_requireRange 13 = .ok (.dup, 1) := by decide +kernel
theorem dX9_requireRange_14 : decode cX9_requireRange 14 = .ok (.ldc_w 325, 3) := by decide +kernel
theorem dX9_requireRange_17 : decode cX9_requireRange 17 = .ok (.invokespecial 55, 3) := by decide +kernel
theorem dX9_requireRange_20 : decode cX9_requireRange 20 = .ok (.athrow, 1) := by decide +kernel
theorem dX9_requireRange_21 : decode cX9_requireRange 21 = .ok (.return_, 1) := by decide +kernel
theorem dX10_init_0 : decode cX10_init 0 = .ok (.aload_n 0, 1) := by decide +kernel
theorem dX10_init_1 : decode cX10_init 1 = .ok (.invokespecial 1, 3) := by decide +kernel
theorem dX10_init_4 : decode cX10_init 4 = .ok (.aload_n 0, 1) := by decide +kernel
theorem dX10_init_5 : decode cX10_init 5 = .ok (.bipush 83, 2) := by decide +kernel
theorem dX10_init_7 : decode cX10_init 7 = .ok (.newarray .int, 2) := by decide +kernel
theorem dX10_init_9 : decode cX10_init 9 = .ok (.putfield 7, 3) := by decide +kernel
theorem dX10_init_12 : decode cX10_init 12 = .ok (.aload_n 0, 1) := by decide +kernel
theorem dX10_init_13 : decode cX10_init 13 = .ok (.iconst 4, 1) := by decide +kernel
theorem dX10_init_14 : decode cX10_init 14 = .ok (.newarray .double, 2) := by decide +kernel
theorem dX10_init_16 : decode cX10_init 16 = .ok (.putfield 13, 3) := by decide +kernel
theorem dX10_init_19 : decode cX10_init 19 = .ok (.aload_n 0, 1) := by decide +kernel
theorem dX10_init_20 : decode cX10_init 20 = .ok (.sipush 498, 3) := by decide +kernel
theorem dX10_init_23 : decode cX10_init 23 = .ok (.newarray .int, 2) := by decide +kernel
theorem dX10_init_25 : decode cX10_init 25 = .ok (.putfield 17, 3) := by decide +kernel
theorem dX10_init_28 : decode cX10_init 28 = .ok (.aload_n 0, 1) := by decide +kernel
theorem dX10_init_29 : decode cX10_init 29 = .ok (.bipush 24, 2) := by decide +kernel
theorem dX10_init_31 : decode cX10_init 31 = .ok (.newarray .double, 2) := by decide +kernel
theorem dX10_init_33 : decode cX10_init 33 = .ok (.putfield 20, 3) := by decide +kernel
theorem dX10_init_36 : decode cX10_init 36 = .ok (.aload_n 0, 1) := by decide +kernel
theorem dX10_init_37 : decode cX10_init 37 = .ok (.bipush 60, 2) := by decide +kernel
theorem dX10_init_39 : decode cX10_init 39 = .ok (.newarray .int, 2) := by decide +kernel
theorem dX10_init_41 : decode cX10_init 41 = .ok (.putfield 23, 3) := by decide +kernel
theorem dX10_init_44 : decode cX10_init 44 = .ok (.aload_n 0, 1) := by decide +kernel
theorem dX10_init_45 : decode cX10_init 45 = .ok (.bipush 31, 2) := by decide +kernel
theorem dX10_init_47 : decode cX10_init 47 = .ok (.newarray .long, 2) := by decide +kernel
theorem dX10_init_49 : decode cX10_init 49 = .ok (.putfield 26, 3) := by decide +kernel
theorem dX10_init_52 : decode cX10_init 52 = .ok (.aload_n 0, 1) := by decide +kernel
theorem dX10_init_53 : decode cX10_init 53 = .ok (.sipush 700, 3) := by decide +kernel
theorem dX10_init_56 : decode cX10_init 56 = .ok (.newarray .int, 2) := by decide +kernel
theorem dX10_init_58 : decode cX10_init 58 = .ok (.putfield 30, 3) := by decide +kernel
theorem dX10_init_61 : decode cX10_init 61 = .ok (.aload_n 0, 1) := by decide +kernel
theorem dX10_init_62 : decode cX10_init 62 = .ok (.sipush 192, 3) := by decide +kernel
theorem dX10_init_65 : decode cX10_init 65 = .ok (.newarray .int, 2) := by decide +kernel
theorem dX10_init_67 : decode cX10_init 67 = .ok (.putfield 33, 3) := by decide +kernel
theorem dX10_init_70 : decode cX10_init 70 = .ok (.aload_n 0, 1) := by decide +kernel
theorem dX10_init_71 : decode cX10_init 71 = .ok (.bipush 6, 2) := by decide +kernel
theorem dX10_init_73 : decode cX10_init 73 = .ok (.newarray .int, 2) := by decide +kernel
theorem dX10_init_75 : decode cX10_init 75 = .ok (.putfield 36, 3) := by decide +kernel
theorem dX10_init_78 : decode cX10_init 78 = .ok (.aload_n 0, 1) := by decide +kernel
theorem dX10_init_79 : decode cX10_init 79 = .ok (.getfield 7, 3) := by decide +kernel
theorem dX10_init_82 : decode cX10_init 82 = .ok (.iconst 1, 1) := by decide +kernel
theorem dX10_init_83 : decode cX10_init 83 = .ok (.bipush 10, 2) := by decide +kernel
theorem dX10_init_85 : decode cX10_init 85 = .ok (.iastore, 1) := by decide +kernel
theorem dX10_init_86 : decode cX10_init 86 = .ok (.aload_n 0, 1) := by decide +kernel
theorem dX10_init_87 : decode cX10_init 87 = .ok (.getfield 7, 3) := by decide +kernel
theorem dX10_init_90 : decode cX10_init 90 = .ok (.iconst 2, 1) := by decide +kernel
theorem dX10_init_91 : decode cX10_init 91 = .ok (.iconst 1, 1) := by decide +kernel
theorem dX10_init_92 : decode cX10_init 92 = .ok (.iastore, 1) := by decide +kernel
theorem dX10_init_93 : decode cX10_init 93 = .ok (.return_, 1) := by decide +kernel
theorem dX10_thrown_0 : decode cX10_thrown 0 = .ok (.aload_n 0, 1) := by decide +kernel
theorem dX10_thrown_1 : decode cX10_thrown 1 = .ok (.getfield 39, 3) := by decide +kernel
theorem dX10_thrown_4 : decode cX10_thrown 4 = .ok (.ireturn, 1) := by decide +kernel
theorem dX10_within_0 : decode cX10_within 0 = .ok (.iload_n 0, 1) := by decide +kernel
theorem dX10_within_1 : decode cX10_within 1 = .ok (.iload_n 1, 1) := by decide +kernel
theorem dX10_within_2 : decode cX10_within 2 = .ok (.if_icmp .lt 12, 3) := by decide +kernel
theorem dX10_within_5 : decode cX10_within 5 = .ok (.iload_n 0, 1) := by decide +kernel
theorem dX10_within_6 : decode cX10_within 6 = .ok (.iload_n 2, 1) := by decide +kernel
theorem dX10_within_7 : decode cX10_within 7 = .ok (.if_icmp .gt 7, 3) := by decide +kernel
theorem dX10_within_10 : decode cX10_within 10 = .ok (.iconst 1, 1) := by decide +kernel
theorem dX10_within_11 : decode cX10_within 11 = .ok (.goto 4, 3) := by decide +kernel
theorem dX10_within_14 : decode cX10_within 14 = .ok (.iconst 0, 1) := by decide +kernel
theorem dX10_within_15 : decode cX10_within 15 = .ok (.ireturn, 1) := by decide +kernel
theorem dX10_save_0 : decode cX10_save 0 = .ok (.aload_n 0, 1) := by decide +kernel
theorem dX10_save_1 : decode cX10_save 1 = .ok (.getfield 43, 3) := by decide +kernel
theorem dX10_save_4 : decode cX10_save 4 = .ok (.bipush 6, 2) := by decide +kernel
theorem dX10_save_6 : decode cX10_save 6 = .ok (.if_icmp .ne 72, 3) := by decide +kernel
theorem dX10_save_9 : decode cX10_save 9 = .ok (.bipush 83, 2) := by decide +kernel
theorem dX10_save_11 : decode cX10_save 11 = .ok (.istore_n 1, 1) := by decide +kernel
theorem dX10_save_12 : decode cX10_save 12 = .ok (.iload_n 1, 1) := by decide +kernel
theorem dX10_save_13 : decode cX10_save 13 = .ok (.sipush 498, 3) := by decide +kernel
theorem dX10_save_16 : decode cX10_save 16 = .ok (.if_icmp .ge 24, 3) := by decide +kernel
theorem dX10_save_19 : decode cX10_save 19 = .ok (.aload_n 0, 1) := by decide +kernel
theorem dX10_save_20 : decode cX10_save 20 = .ok (.getfield 17, 3) := by decide +kernel
theorem dX10_save_23 : decode cX10_save 23 = .ok (.iload_n 1, 1) := by decide +kernel
theorem dX10_save_24 : decode cX10_save 24 = .ok (.bipush 83, 2) := by decide +kernel
theorem dX10_save_26 : decode cX10_save 26 = .ok (.isub, 1) := by decide +kernel
theorem dX10_save_27 : decode cX10_save 27 = .ok (.aload_n 0, 1) := by decide +kernel
theorem dX10_save_28 : decode cX10_save 28 = .ok (.getfield 17, 3) := by decide +kernel
theorem dX10_save_31 : decode cX10_save 31 = .ok (.iload_n 1, 1) := by decide +kernel
theorem dX10_save_32 : decode cX10_save 32 = .ok (.iaload, 1) := by decide +kernel
theorem dX10_save_33 : decode cX10_save 33 = .ok (.iastore, 1) := by decide +kernel
theorem dX10_save_34 : decode cX10_save 34 = .ok (.iinc 1 1, 3) := by decide +kernel
theorem dX10_save_37 : decode cX10_save 37 = .ok (.goto (-25), 3) := by decide +kernel
theorem dX10_save_40 : decode cX10_save 40 = .ok (.iconst 4, 1) := by decide +kernel
theorem dX10_save_41 : decode cX10_save 41 = .ok (.istore_n 1, 1) := by decide +kernel
theorem dX10_save_42 : decode cX10_save 42 = .ok (.iload_n 1, 1) := by decide +kernel
theorem dX10_save_43 : decode cX10_save 43 = .ok (.bipush 24, 2) := by decide +kernel
theorem dX10_save_45 : decode cX10_save 45 = .ok (.if_icmp .ge 23, 3) := by decide +kernel
theorem dX10_save_48 : decode cX10_save 48 = .ok (.aload_n 0, 1) := by decide +kernel
theorem dX10_save_49 : decode cX10_save 49 = .ok (.getfield 20, 3) := by decide +kernel
theorem dX10_save_52 : decode cX10_save 52 = .ok (.iload_n 1, 1) := by decide +kernel
theorem dX10_save_53 : decode cX10_save 53 = .ok (.iconst 4, 1) := by decide +kernel
theorem dX10_save_54 : decode cX10_save 54 = .ok (.isub, 1) := by decide +kernel
theorem dX10_save_55 : decode cX10_save 55 = .ok (.aload_n 0, 1) := by decide +kernel
theorem dX10_save_56 : decode cX10_save 56 = .ok (.getfield 20, 3) := by decide +kernel
theorem dX10_save_59 : decode cX10_save 59 = .ok (.iload_n 1, 1) := by decide +kernel
theorem dX10_save_60 : decode cX10_save 60 = .ok (.daload, 1) := by decide +kernel
theorem dX10_save_61 : decode cX10_save 61 = .ok (.dastore, 1) := by decide +kernel
theorem dX10_save_62 : decode cX10_save 62 = .ok (.iinc 1 1, 3) := by decide +kernel
theorem dX10_save_65 : decode cX10_save 65 = .ok (.goto (-23), 3) := by decide +kernel
theorem dX10_save_68 : decode cX10_save 68 = .ok (.aload_n 0, 1) := by decide +kernel
theorem dX10_save_69 : decode cX10_save 69 = .ok (.dup, 1) := by decide +kernel
theorem dX10_save_70 : decode cX10_save 70 = .ok (.getfield 43, 3) := by decide +kernel
theorem dX10_save_73 : decode cX10_save 73 = .ok (.iconst 1, 1) := by decide +kernel
theorem dX10_save_74 : decode cX10_save 74 = .ok (.isub, 1) := by decide +kernel
theorem dX10_save_75 : decode cX10_save 75 = .ok (.putfield 43, 3) := by decide +kernel
theorem dX10_save_78 : decode cX10_save 78 = .ok (.iconst 0, 1) := by decide +kernel
theorem dX10_save_79 : decode cX10_save 79 = .ok (.istore_n 1, 1) := by decide +kernel
theorem dX10_save_80 : decode cX10_save 80 = .ok (.iload_n 1, 1) := by decide +kernel
theorem dX10_save_81 : decode cX10_save 81 = .ok (.bipush 83, 2) := by decide +kernel
theorem dX10_save_83 : decode cX10_save 83 = .ok (.if_icmp .ge 29, 3) := by decide +kernel
theorem dX10_save_86 : decode cX10_save 86 = .ok (.aload_n 0, 1) := by decide +kernel
theorem dX10_save_87 : decode cX10_save 87 = .ok (.getfield 17, 3) := by decide +kernel
theorem dX10_save_90 : decode cX10_save 90 = .ok (.bipush 83, 2) := by decide +kernel
theorem dX10_save_92 : decode cX10_save 92 = .ok (.aload_n 0, 1) := by decide +kernel
theorem dX10_save_93 : decode cX10_save 93 = .ok (.getfield 43, 3) := by decide +kernel
theorem dX10_save_96 : decode cX10_save 96 = .ok (.imul, 1) := by decide +kernel
theorem dX10_save_97 : decode cX10_save 97 = .ok (.iload_n 1, 1) := by decide +kernel
theorem dX10_save_98 : decode cX10_save 98 = .ok (.iadd, 1) := by decide +kernel
theorem dX10_save_99 : decode cX10_save 99 = .ok (.aload_n 0, 1) := by decide +kernel
theorem dX10_save_100 : decode cX10_save 100 = .ok (.getfield 7, 3) := by decide +kernel
theorem dX10_save_103 : decode cX10_save 103 = .ok (.iload_n 1, 1) := by decide +kernel
theorem dX10_save_104 : decode cX10_save 104 = .ok (.iaload, 1) := by decide +kernel
theorem dX10_save_105 : decode cX10_save 105 = .ok (.iastore, 1) := by decide +kernel
theorem dX10_save_106 : decode cX10_save 106 = .ok (.iinc 1 1, 3) := by decide +kernel
theorem dX10_save_109 : decode cX10_save 109 = .ok (.goto (-29), 3) := by decide +kernel
theorem dX10_save_112 : decode cX10_save 112 = .ok (.iconst 0, 1) := by decide +kernel
theorem dX10_save_113 : decode cX10_save 113 = .ok (.istore_n 1, 1) := by decide +kernel
theorem dX10_save_114 : decode cX10_save 114 = .ok (.iload_n 1, 1) := by decide +kernel
theorem dX10_save_115 : decode cX10_save 115 = .ok (.iconst 4, 1) := by decide +kernel
theorem dX10_save_116 : decode cX10_save 116 = .ok (.if_icmp .ge 28, 3) := by decide +kernel
theorem dX10_save_119 : decode cX10_save 119 = .ok (.aload_n 0, 1) := by decide +kernel
theorem dX10_save_120 : decode cX10_save 120 = .ok (.getfield 20, 3) := by decide +kernel
theorem dX10_save_123 : decode cX10_save 123 = .ok (.iconst 4, 1) := by decide +kernel
theorem dX10_save_124 : decode cX10_save 124 = .ok (.aload_n 0, 1) := by decide +kernel
theorem dX10_save_125 : decode cX10_save 125 = .ok (.getfield 43, 3) := by decide +kernel
theorem dX10_save_128 : decode cX10_save 128 = .ok (.imul, 1) := by decide +kernel
theorem dX10_save_129 : decode cX10_save 129 = .ok (.iload_n 1, 1) := by decide +kernel
theorem dX10_save_130 : decode cX10_save 130 = .ok (.iadd, 1) := by decide +kernel
theorem dX10_save_131 : decode cX10_save 131 = .ok (.aload_n 0, 1) := by decide +kernel
theorem dX10_save_132 : decode cX10_save 132 = .ok (.getfield 13, 3) := by decide +kernel
theorem dX10_save_135 : decode cX10_save 135 = .ok (.iload_n 1, 1) := by decide +kernel
theorem dX10_save_136 : decode cX10_save 136 = .ok (.daload, 1) := by decide +kernel
theorem dX10_save_137 : decode cX10_save 137 = .ok (.dastore, 1) := by decide +kernel
theorem dX10_save_138 : decode cX10_save 138 = .ok (.iinc 1 1, 3) := by decide +kernel
theorem dX10_save_141 : decode cX10_save 141 = .ok (.goto (-27), 3) := by decide +kernel
theorem dX10_save_144 : decode cX10_save 144 = .ok (.aload_n 0, 1) := by decide +kernel
theorem dX10_save_145 : decode cX10_save 145 = .ok (.dup, 1) := by decide +kernel
theorem dX10_save_146 : decode cX10_save 146 = .ok (.getfield 43, 3) := by decide +kernel
theorem dX10_save_149 : decode cX10_save 149 = .ok (.iconst 1, 1) := by decide +kernel
theorem dX10_save_150 : decode cX10_save 150 = .ok (.iadd, 1) := by decide +kernel
theorem dX10_save_151 : decode cX10_save 151 = .ok (.putfield 43, 3) := by decide +kernel
theorem dX10_save_154 : decode cX10_save 154 = .ok (.return_, 1) := by decide +kernel
theorem dX10_isPart_0 : decode cX10_isPart 0 = .ok (.iload_n 1, 1) := by decide +kernel
theorem dX10_isPart_1 : decode cX10_isPart 1 = .ok (.iconst 0, 1) := by decide +kernel
theorem dX10_isPart_2 : decode cX10_isPart 2 = .ok (.aload_n 0, 1) := by decide +kernel
theorem dX10_isPart_3 : decode cX10_isPart 3 = .ok (.getfield 7, 3) := by decide +kernel
theorem dX10_isPart_6 : decode cX10_isPart 6 = .ok (.iconst 0, 1) := by decide +kernel
theorem dX10_isPart_7 : decode cX10_isPart 7 = .ok (.iaload, 1) := by decide +kernel
theorem dX10_isPart_8 : decode cX10_isPart 8 = .ok (.iconst 1, 1) := by decide +kernel
theorem dX10_isPart_9 : decode cX10_isPart 9 = .ok (.isub, 1) := by decide +kernel
theorem dX10_isPart_10 : decode cX10_isPart 10 = .ok (.invokestatic 46, 3) := by decide +kernel
theorem dX10_isPart_13 : decode cX10_isPart 13 = .ok (.ireturn, 1) := by decide +kernel
theorem dX10_isLoad_0 : decode cX10_isLoad 0 = .ok (.iload_n 0, 1) := by decide +kernel
theorem dX10_isLoad_1 : decode cX10_isLoad 1 = .ok (.iconst 0, 1) := by decide +kernel
theorem dX10_isLoad_2 : decode cX10_isLoad 2 = .ok (.iconst 5, 1) := by decide +kernel
theorem dX10_isLoad_3 : decode cX10_isLoad 3 = .ok (.invokestatic 46, 3) := by decide +kernel
theorem dX10_isLoad_6 : decode cX10_isLoad 6 = .ok (.ireturn, 1) := by decide +kernel
theorem dX10_weightOf_0 : decode cX10_weightOf 0 = .ok (.aload_n 0, 1) := by decide +kernel
theorem dX10_weightOf_1 : decode cX10_weightOf 1 = .ok (.getfield 7, 3) := by decide +kernel
theorem dX10_weightOf_4 : decode cX10_weightOf 4 = .ok (.bipush 11, 2) := by decide +kernel
theorem dX10_weightOf_6 : decode cX10_weightOf 6 = .ok (.bipush 6, 2) := by decide +kernel
theorem dX10_weightOf_8 : decode cX10_weightOf 8 = .ok (.iload_n 1, 1) := by decide +kernel
theorem dX10_weightOf_9 : decode cX10_weightOf 9 = .ok (.imul, 1) := by decide +kernel
theorem dX10_weightOf_10 : decode cX10_weightOf 10 = .ok (.iadd, 1) := by decide +kernel
theorem dX10_weightOf_11 : decode cX10_weightOf 11 = .ok (.iload_n 2, 1) := by decide +kernel
theorem dX10_weightOf_12 : decode cX10_weightOf 12 = .ok (.iadd, 1) := by decide +kernel
theorem dX10_weightOf_13 : decode cX10_weightOf 13 = .ok (.iaload, 1) := by decide +kernel
theorem dX10_weightOf_14 : decode cX10_weightOf 14 = .ok (.ireturn, 1) := by decide +kernel
theorem dX10_tiltedOf_0 : decode cX10_tiltedOf 0 = .ok (.aload_n 0, 1) := by decide +kernel
theorem dX10_tiltedOf_1 : decode cX10_tiltedOf 1 = .ok (.getfield 7, 3) := by decide +kernel
theorem dX10_tiltedOf_4 : decode cX10_tiltedOf 4 = .ok (.bipush 47, 2) := by decide +kernel
theorem dX10_tiltedOf_6 : decode cX10_tiltedOf 6 = .ok (.bipush 6, 2) := by decide +kernel
theorem dX10_tiltedOf_8 : decode cX10_tiltedOf 8 = .ok (.iload_n 1, 1) := by decide +kernel
theorem dX10_tiltedOf_9 : decode cX10_tiltedOf 9 = .ok (.imul, 1) := by decide +kernel
theorem dX10_tiltedOf_10 : decode cX10_tiltedOf 10 = .ok (.iadd, 1) := by decide +kernel
theorem dX10_tiltedOf_11 : decode cX10_tiltedOf 11 = .ok (.iload_n 2, 1) := by decide +kernel
theorem dX10_tiltedOf_12 : decode cX10_tiltedOf 12 = .ok (.iadd, 1) := by decide +kernel
theorem dX10_tiltedOf_13 : decode cX10_tiltedOf 13 = .ok (.iaload, 1) := by decide +kernel
theorem dX10_tiltedOf_14 : decode cX10_tiltedOf 14 = .ok (.ireturn, 1) := by decide +kernel
theorem dX10_totalOf_0 : decode cX10_totalOf 0 = .ok (.iconst 0, 1) := by decide +kernel
theorem dX10_totalOf_1 : decode cX10_totalOf 1 = .ok (.istore_n 2, 1) := by decide +kernel
theorem dX10_totalOf_2 : decode cX10_totalOf 2 = .ok (.iconst 0, 1) := by decide +kernel
theorem dX10_totalOf_3 : decode cX10_totalOf 3 = .ok (.istore_n 3, 1) := by decide +kernel
theorem dX10_totalOf_4 : decode cX10_totalOf 4 = .ok (.iload_n 3, 1) := by decide +kernel
theorem dX10_totalOf_5 : decode cX10_totalOf 5 = .ok (.bipush 6, 2) := by decide +kernel
theorem dX10_totalOf_7 : decode cX10_totalOf 7 = .ok (.if_icmp .ge 18, 3) := by decide +kernel
theorem dX10_totalOf_10 : decode cX10_totalOf 10 = .ok (.iload_n 2, 1) := by decide +kernel
theorem dX10_totalOf_11 : decode cX10_totalOf 11 = .ok (.aload_n 0, 1) := by decide +kernel
theorem dX10_totalOf_12 : decode cX10_totalOf 12 = .ok (.iload_n 1, 1) := by decide +kernel
theorem dX10_totalOf_13 : decode cX10_totalOf 13 = .ok (.iload_n 3, 1) := by decide +kernel
theorem dX10_totalOf_14 : decode cX10_totalOf 14 = .ok (.invokevirtual 50, 3) := by decide +kernel
theorem dX10_totalOf_17 : decode cX10_totalOf 17 = .ok (.iadd, 1) := by decide +kernel
theorem dX10_totalOf_18 : decode cX10_totalOf 18 = .ok (.istore_n 2, 1) := by decide +kernel
theorem dX10_totalOf_19 : decode cX10_totalOf 19 = .ok (.iinc 3 1, 3) := by decide +kernel
theorem dX10_totalOf_22 : decode cX10_totalOf 22 = .ok (.goto (-18), 3) := by decide +kernel
theorem dX10_totalOf_25 : decode cX10_totalOf 25 = .ok (.iload_n 2, 1) := by decide +kernel
theorem dX10_totalOf_26 : decode cX10_totalOf 26 = .ok (.ireturn, 1) := by decide +kernel
theorem dX10_tiltedTotalOf_0 : decode cX10_tiltedTotalOf 0 = .ok (.iconst 0, 1) := by decide +kernel
theorem dX10_tiltedTotalOf_1 : decode cX10_tiltedTotalOf 1 = .ok (.istore_n 2, 1) := by decide +kernel
theorem dX10_tiltedTotalOf_2 : decode cX10_tiltedTotalOf 2 = .ok (.iconst 0, 1) := by decide +kernel
theorem dX10_tiltedTotalOf_3 : decode cX10_tiltedTotalOf 3 = .ok (.istore_n 3, 1) := by decide +kernel
theorem dX10_tiltedTotalOf_4 : decode cX10_tiltedTotalOf 4 = .ok (.iload_n 3, 1) := by decide +kernel
theorem dX10_tiltedTotalOf_5 : decode cX10_tiltedTotalOf 5 = .ok (.bipush 6, 2) := by decide +kernel
theorem dX10_tiltedTotalOf_7 : decode cX10_tiltedTotalOf 7 = .ok (.if_icmp .ge 18, 3) := by decide +kernel
theorem dX10_tiltedTotalOf_10 : decode cX10_tiltedTotalOf 10 = .ok (.iload_n 2, 1) := by decide +kernel
theorem dX10_tiltedTotalOf_11 : decode cX10_tiltedTotalOf 11 = .ok (.aload_n 0, 1) := by decide +kernel
theorem dX10_tiltedTotalOf_12 : decode cX10_tiltedTotalOf 12 = .ok (.iload_n 1, 1) := by decide +kernel
theorem dX10_tiltedTotalOf_13 : decode cX10_tiltedTotalOf 13 = .ok (.iload_n 3, 1) := by decide +kernel
theorem dX10_tiltedTotalOf_14 : decode cX10_tiltedTotalOf 14 = .ok (.invokevirtual 54, 3) := by decide +kernel
theorem dX10_tiltedTotalOf_17 : decode cX10_tiltedTotalOf 17 = .ok (.iadd, 1) := by decide +kernel
theorem dX10_tiltedTotalOf_18 : decode cX10_tiltedTotalOf 18 = .ok (.istore_n 2, 1) := by decide +kernel
theorem dX10_tiltedTotalOf_19 : decode cX10_tiltedTotalOf 19 = .ok (.iinc 3 1, 3) := by decide +kernel
theorem dX10_tiltedTotalOf_22 : decode cX10_tiltedTotalOf 22 = .ok (.goto (-18), 3) := by decide +kernel
theorem dX10_tiltedTotalOf_25 : decode cX10_tiltedTotalOf 25 = .ok (.iload_n 2, 1) := by decide +kernel
theorem dX10_tiltedTotalOf_26 : decode cX10_tiltedTotalOf 26 = .ok (.ireturn, 1) := by decide +kernel
theorem dX10_forgets_0 : decode cX10_forgets 0 = .ok (.aload_n 0, 1) := by decide +kernel
theorem dX10_forgets_1 : decode cX10_forgets 1 = .ok (.getfield 7, 3) := by decide +kernel
theorem dX10_forgets_4 : decode cX10_forgets 4 = .ok (.iconst 3, 1) := by decide +kernel
theorem dX10_forgets_5 : decode cX10_forgets 5 = .ok (.iaload, 1) := by decide +kernel
theorem dX10_forgets_6 : decode cX10_forgets 6 = .ok (.istore_n 1, 1) := by decide +kernel
theorem dX10_forgets_7 : decode cX10_forgets 7 = .ok (.aload_n 0, 1) := by decide +kernel
theorem dX10_forgets_8 : decode cX10_forgets 8 = .ok (.getfield 7, 3) := by decide +kernel
theorem dX10_forgets_11 : decode cX10_forgets 11 = .ok (.iconst 3, 1) := by decide +kernel
theorem dX10_forgets_12 : decode cX10_forgets 12 = .ok (.iconst 0, 1) := by decide +kernel
theorem dX10_forgets_13 : decode cX10_forgets 13 = .ok (.iastore, 1) := by decide +kernel
theorem dX10_forgets_14 : decode cX10_forgets 14 = .ok (.aload_n 0, 1) := by decide +kernel
theorem dX10_forgets_15 : decode cX10_forgets 15 = .ok (.getfield 7, 3) := by decide +kernel
theorem dX10_forgets_18 : decode cX10_forgets 18 = .ok (.iconst 4, 1) := by decide +kernel
theorem dX10_forgets_19 : decode cX10_forgets 19 = .ok (.iconst 0, 1) := by decide +kernel
theorem dX10_forgets_20 : decode cX10_forgets 20 = .ok (.iastore, 1) := by decide +kernel
theorem dX10_forgets_21 : decode cX10_forgets 21 = .ok (.iconst 0, 1) := by decide +kernel
theorem dX10_forgets_22 : decode cX10_forgets 22 = .ok (.istore_n 2, 1) := by decide +kernel
theorem dX10_forgets_23 : decode cX10_forgets 23 = .ok (.iload_n 2, 1) := by decide +kernel
theorem dX10_forgets_24 : decode cX10_forgets 24 = .ok (.bipush 6, 2) := by decide +kernel
theorem dX10_forgets_26 : decode cX10_forgets 26 = .ok (.if_icmp .ge 18, 3) := by decide +kernel
theorem dX10_forgets_29 : decode cX10_forgets 29 = .ok (.aload_n 0, 1) := by decide +kernel
theorem dX10_forgets_30 : decode cX10_forgets 30 = .ok (.getfield 7, 3) := by decide +kernel
theorem dX10_forgets_33 : decode cX10_forgets 33 = .ok (.iconst 5, 1) := by decide +kernel
theorem dX10_forgets_34 : decode cX10_forgets 34 = .ok (.iload_n 2, 1) := by decide +kernel
theorem dX10_forgets_35 : decode cX10_forgets 35 = .ok (.iadd, 1) := by decide +kernel
theorem dX10_forgets_36 : decode cX10_forgets 36 = .ok (.iconst 0, 1) := by decide +kernel
theorem dX10_forgets_37 : decode cX10_forgets 37 = .ok (.iastore, 1) := by decide +kernel
theorem dX10_forgets_38 : decode cX10_forgets 38 = .ok (.iinc 2 1, 3) := by decide +kernel
theorem dX10_forgets_41 : decode cX10_forgets 41 = .ok (.goto (-18), 3) := by decide +kernel
theorem dX10_forgets_44 : decode cX10_forgets 44 = .ok (.iconst 0, 1) := by decide +kernel
theorem dX10_forgets_45 : decode cX10_forgets 45 = .ok (.istore_n 2, 1) := by decide +kernel
theorem dX10_forgets_46 : decode cX10_forgets 46 = .ok (.iload_n 2, 1) := by decide +kernel
theorem dX10_forgets_47 : decode cX10_forgets 47 = .ok (.iconst 4, 1) := by decide +kernel
theorem dX10_forgets_48 : decode cX10_forgets 48 = .ok (.if_icmp .ge 16, 3) := by decide +kernel
theorem dX10_forgets_51 : decode cX10_forgets 51 = .ok (.aload_n 0, 1) := by decide +kernel
theorem dX10_forgets_52 : decode cX10_forgets 52 = .ok (.getfield 13, 3) := by decide +kernel
theorem dX10_forgets_55 : decode cX10_forgets 55 = .ok (.iload_n 2, 1) := by decide +kernel
theorem dX10_forgets_56 : decode cX10_forgets 56 = .ok (.dconst 0, 1) := by decide +kernel
theorem dX10_forgets_57 : decode cX10_forgets 57 = .ok (.dastore, 1) := by decide +kernel
theorem dX10_forgets_58 : decode cX10_forgets 58 = .ok (.iinc 2 1, 3) := by decide +kernel
theorem dX10_forgets_61 : decode cX10_forgets 61 = .ok (.goto (-15), 3) := by decide +kernel
theorem dX10_forgets_64 : decode cX10_forgets 64 = .ok (.iload_n 1, 1) := by decide +kernel
theorem dX10_forgets_65 : decode cX10_forgets 65 = .ok (.ireturn, 1) := by decide +kernel
theorem dX10_drawLoad_0 : decode cX10_drawLoad 0 = .ok (.aload_n 0, 1) := by decide +kernel
theorem dX10_drawLoad_1 : decode cX10_drawLoad 1 = .ok (.getfield 7, 3) := by decide +kernel
theorem dX10_drawLoad_4 : decode cX10_drawLoad 4 = .ok (.iconst 2, 1) := by decide +kernel
theorem dX10_drawLoad_5 : decode cX10_drawLoad 5 = .ok (.iaload, 1) := by decide +kernel
theorem dX10_drawLoad_6 : decode cX10_drawLoad 6 = .ok (.i2l, 1) := by decide +kernel
theorem dX10_drawLoad_7 : decode cX10_drawLoad 7 = .ok (.ldc2_w 57, 3) := by decide +kernel
theorem dX10_drawLoad_10 : decode cX10_drawLoad 10 = .ok (.lmul, 1) := by decide +kernel
theorem dX10_drawLoad_11 : decode cX10_drawLoad 11 = .ok (.ldc2_w 59, 3) := by decide +kernel
theorem dX10_drawLoad_14 : decode cX10_drawLoad 14 = .ok (.ladd, 1) := by decide +kernel
theorem dX10_drawLoad_15 : decode cX10_drawLoad 15 = .ok (.ldc2_w 61, 3) := by decide +kernel
theorem dX10_drawLoad_18 : decode cX10_drawLoad 18 = .ok (.lrem, 1) := by decide +kernel
theorem dX10_drawLoad_19 : decode cX10_drawLoad 19 = .ok (.lstore_n 2, 1) := by decide +kernel
theorem dX10_drawLoad_20 : decode cX10_drawLoad 20 = .ok (.aload_n 0, 1) := by decide +kernel
theorem dX10_drawLoad_21 : decode cX10_drawLoad 21 = .ok (.getfield 7, 3) := by decide +kernel
theorem dX10_drawLoad_24 : decode cX10_drawLoad 24 = .ok (.iconst 2, 1) := by decide +kernel
theorem dX10_drawLoad_25 : decode cX10_drawLoad 25 = .ok (.lload_n 2, 1) := by decide +kernel
theorem dX10_drawLoad_26 : decode cX10_drawLoad 26 = .ok (.l2i, 1) := by decide +kernel
theorem dX10_drawLoad_27 : decode cX10_drawLoad 27 = .ok (.iastore, 1) := by decide +kernel
theorem dX10_drawLoad_28 : decode cX10_drawLoad 28 = .ok (.aload_n 0, 1) := by decide +kernel
theorem dX10_drawLoad_29 : decode cX10_drawLoad 29 = .ok (.getfield 7, 3) := by decide +kernel
theorem dX10_drawLoad_32 : decode cX10_drawLoad 32 = .ok (.iconst 2, 1) := by decide +kernel
theorem dX10_drawLoad_33 : decode cX10_drawLoad 33 = .ok (.iaload, 1) := by decide +kernel
theorem dX10_drawLoad_34 : decode cX10_drawLoad 34 = .ok (.ldc 63, 2) := by decide +kernel
theorem dX10_drawLoad_36 : decode cX10_drawLoad 36 = .ok (.idiv, 1) := by decide +kernel
theorem dX10_drawLoad_37 : decode cX10_drawLoad 37 = .ok (.aload_n 0, 1) := by decide +kernel
theorem dX10_drawLoad_38 : decode cX10_drawLoad 38 = .ok (.iload_n 1, 1) := by decide +kernel
theorem dX10_drawLoad_39 : decode cX10_drawLoad 39 = .ok (.invokevirtual 64, 3) := by decide +kernel
theorem dX10_drawLoad_42 : decode cX10_drawLoad 42 = .ok (.irem, 1) := by decide +kernel
theorem dX10_drawLoad_43 : decode cX10_drawLoad 43 = .ok (.istore 4, 2) := by decide +kernel
theorem dX10_drawLoad_45 : decode cX10_drawLoad 45 = .ok (.iconst 0, 1) := by decide +kernel
theorem dX10_drawLoad_46 : decode cX10_drawLoad 46 = .ok (.istore 5, 2) := by decide +kernel
theorem dX10_drawLoad_48 : decode cX10_drawLoad 48 = .ok (.aload_n 0, 1) := by decide +kernel
theorem dX10_drawLoad_49 : decode cX10_drawLoad 49 = .ok (.iload_n 1, 1) := by decide +kernel
theorem dX10_drawLoad_50 : decode cX10_drawLoad 50 = .ok (.iconst 0, 1) := by decide +kernel
theorem dX10_drawLoad_51 : decode cX10_drawLoad 51 = .ok (.invokevirtual 54, 3) := by decide +kernel
theorem dX10_drawLoad_54 : decode cX10_drawLoad 54 = .ok (.istore 6, 2) := by decide +kernel
theorem dX10_drawLoad_56 : decode cX10_drawLoad 56 = .ok (.iload 6, 2) := by decide +kernel
theorem dX10_drawLoad_58 : decode cX10_drawLoad 58 = .ok (.iload 4, 2) := by decide +kernel
theorem dX10_drawLoad_60 : decode cX10_drawLoad 60 = .ok (.if_icmp .gt 21, 3) := by decide +kernel
theorem dX10_drawLoad_63 : decode cX10_drawLoad 63 = .ok (.iinc 5 1, 3) := by decide +kernel
theorem dX10_drawLoad_66 : decode cX10_drawLoad 66 = .ok (.iload 6, 2) := by decide +kernel
theorem dX10_drawLoad_68 : decode cX10_drawLoad 68 = .ok (.aload_n 0, 1) := by decide +kernel
theorem dX10_drawLoad_69 : decode cX10_drawLoad 69 = .ok (.iload_n 1, 1) := by decide +kernel
theorem dX10_drawLoad_70 : decode cX10_drawLoad 70 = .ok (.iload 5, 2) := by decide +kernel
theorem dX10_drawLoad_72 : decode cX10_drawLoad 72 = .ok (.invokevirtual 54, 3) := by decide +kernel
theorem dX10_drawLoad_75 : decode cX10_drawLoad 75 = .ok (.iadd, 1) := by decide +kernel
theorem dX10_drawLoad_76 : decode cX10_drawLoad 76 = .ok (.istore 6, 2) := by decide +kernel
theorem dX10_drawLoad_78 : decode cX10_drawLoad 78 = .ok (.goto (-22), 3) := by decide +kernel
theorem dX10_drawLoad_81 : decode cX10_drawLoad 81 = .ok (.iload 5, 2) := by decide +kernel
theorem dX10_drawLoad_83 : decode cX10_drawLoad 83 = .ok (.ireturn, 1) := by decide +kernel
theorem dX10_corrected_0 : decode cX10_corrected 0 = .ok (.dload_n 1, 1) := by decide +kernel
theorem dX10_corrected_1 : decode cX10_corrected 1 = .ok (.aload_n 0, 1) := by decide +kernel
theorem dX10_corrected_2 : decode cX10_corrected 2 = .ok (.iload_n 3, 1) := by decide +kernel
theorem dX10_corrected_3 : decode cX10_corrected 3 = .ok (.iload 4, 2) := by decide +kernel
theorem dX10_corrected_5 : decode cX10_corrected 5 = .ok (.invokevirtual 50, 3) := by decide +kernel
theorem dX10_corrected_8 : decode cX10_corrected 8 = .ok (.i2d, 1) := by decide +kernel
theorem dX10_corrected_9 : decode cX10_corrected 9 = .ok (.dmul, 1) := by decide +kernel
theorem dX10_corrected_10 : decode cX10_corrected 10 = .ok (.dstore 5, 2) := by decide +kernel
theorem dX10_corrected_12 : decode cX10_corrected 12 = .ok (.dload 5, 2) := by decide +kernel
theorem dX10_corrected_14 : decode cX10_corrected 14 = .ok (.aload_n 0, 1) := by decide +kernel
theorem dX10_corrected_15 : decode cX10_corrected 15 = .ok (.iload_n 3, 1) := by decide +kernel
theorem dX10_corrected_16 : decode cX10_corrected 16 = .ok (.invokevirtual 64, 3) := by decide +kernel
theorem dX10_corrected_19 : decode cX10_corrected 19 = .ok (.i2d, 1) := by decide +kernel
theorem dX10_corrected_20 : decode cX10_corrected 20 = .ok (.dmul, 1) := by decide +kernel
theorem dX10_corrected_21 : decode cX10_corrected 21 = .ok (.dstore 5, 2) := by decide +kernel
theorem dX10_corrected_23 : decode cX10_corrected 23 = .ok (.dload 5, 2) := by decide +kernel
theorem dX10_corrected_25 : decode cX10_corrected 25 = .ok (.aload_n 0, 1) := by decide +kernel
theorem dX10_corrected_26 : decode cX10_corrected 26 = .ok (.iload_n 3, 1) := by decide +kernel
theorem dX10_corrected_27 : decode cX10_corrected 27 = .ok (.invokevirtual 68, 3) := by decide +kernel
theorem dX10_corrected_30 : decode cX10_corrected 30 = .ok (.i2d, 1) := by decide +kernel
theorem dX10_corrected_31 : decode cX10_corrected 31 = .ok (.ddiv, 1) := by decide +kernel
theorem dX10_corrected_32 : decode cX10_corrected 32 = .ok (.dstore 5, 2) := by decide +kernel
theorem dX10_corrected_34 : decode cX10_corrected 34 = .ok (.dload 5, 2) := by decide +kernel
theorem dX10_corrected_36 : decode cX10_corrected 36 = .ok (.aload_n 0, 1) := by decide +kernel
theorem dX10_corrected_37 : decode cX10_corrected 37 = .ok (.iload_n 3, 1) := by decide +kernel
theorem dX10_corrected_38 : decode cX10_corrected 38 = .ok (.iload 4, 2) := by decide +kernel
theorem dX10_corrected_40 : decode cX10_corrected 40 = .ok (.invokevirtual 54, 3) := by decide +kernel
theorem dX10_corrected_43 : decode cX10_corrected 43 = .ok (.i2d, 1) := by decide +kernel
theorem dX10_corrected_44 : decode cX10_corrected 44 = .ok (.ddiv, 1) := by decide +kernel
theorem dX10_corrected_45 : decode cX10_corrected 45 = .ok (.dreturn, 1) := by decide +kernel
theorem dX10_drawRow_0 : decode cX10_drawRow 0 = .ok (.iconst 0, 1) := by decide +kernel
theorem dX10_drawRow_1 : decode cX10_drawRow 1 = .ok (.istore_n 1, 1) := by decide +kernel
theorem dX10_drawRow_2 : decode cX10_drawRow 2 = .ok (.dconst 1, 1) := by decide +kernel
theorem dX10_drawRow_3 : decode cX10_drawRow 3 = .ok (.dstore_n 2, 1) := by decide +kernel
theorem dX10_drawRow_4 : decode cX10_drawRow 4 = .ok (.iconst 0, 1) := by decide +kernel
theorem dX10_drawRow_5 : decode cX10_drawRow 5 = .ok (.istore 4, 2) := by decide +kernel
theorem dX10_drawRow_7 : decode cX10_drawRow 7 = .ok (.iload 4, 2) := by decide +kernel
theorem dX10_drawRow_9 : decode cX10_drawRow 9 = .ok (.aload_n 0, 1) := by decide +kernel
theorem dX10_drawRow_10 : decode cX10_drawRow 10 = .ok (.getfield 7, 3) := by decide +kernel
theorem dX10_drawRow_13 : decode cX10_drawRow 13 = .ok (.iconst 0, 1) := by decide +kernel
theorem dX10_drawRow_14 : decode cX10_drawRow 14 = .ok (.iaload, 1) := by decide +kernel
theorem dX10_drawRow_15 : decode cX10_drawRow 15 = .ok (.if_icmp .ge 43, 3) := by decide +kernel
theorem dX10_drawRow_18 : decode cX10_drawRow 18 = .ok (.aload_n 0, 1) := by decide +kernel
theorem dX10_drawRow_19 : decode cX10_drawRow 19 = .ok (.iload 4, 2) := by decide +kernel
theorem dX10_drawRow_21 : decode cX10_drawRow 21 = .ok (.invokevirtual 71, 3) := by decide +kernel
theorem dX10_drawRow_24 : decode cX10_drawRow 24 = .ok (.istore 5, 2) := by decide +kernel
theorem dX10_drawRow_26 : decode cX10_drawRow 26 = .ok (.aload_n 0, 1) := by decide +kernel
theorem dX10_drawRow_27 : decode cX10_drawRow 27 = .ok (.getfield 7, 3) := by decide +kernel
theorem dX10_drawRow_30 : decode cX10_drawRow 30 = .ok (.iconst 5, 1) := by decide +kernel
theorem dX10_drawRow_31 : decode cX10_drawRow 31 = .ok (.iload 4, 2) := by decide +kernel
theorem dX10_drawRow_33 : decode cX10_drawRow 33 = .ok (.iadd, 1) := by decide +kernel
theorem dX10_drawRow_34 : decode cX10_drawRow 34 = .ok (.iload 5, 2) := by decide +kernel
theorem dX10_drawRow_36 : decode cX10_drawRow 36 = .ok (.iastore, 1) := by decide +kernel
theorem dX10_drawRow_37 : decode cX10_drawRow 37 = .ok (.iload_n 1, 1) := by decide +kernel
theorem dX10_drawRow_38 : decode cX10_drawRow 38 = .ok (.iload 5, 2) := by decide +kernel
theorem dX10_drawRow_40 : decode cX10_drawRow 40 = .ok (.iadd, 1) := by decide +kernel
theorem dX10_drawRow_41 : decode cX10_drawRow 41 = .ok (.istore_n 1, 1) := by decide +kernel
theorem dX10_drawRow_42 : decode cX10_drawRow 42 = .ok (.aload_n 0, 1) := by decide +kernel
theorem dX10_drawRow_43 : decode cX10_drawRow 43 = .ok (.dload_n 2, 1) := by decide +kernel
theorem dX10_drawRow_44 : decode cX10_drawRow 44 = .ok (.iload 4, 2) := by decide +kernel
theorem dX10_drawRow_46 : decode cX10_drawRow 46 = .ok (.iload 5, 2) := by decide +kernel
theorem dX10_drawRow_48 : decode cX10_drawRow 48 = .ok (.invokevirtual 74, 3) := by decide +kernel
theorem dX10_drawRow_51 : decode cX10_drawRow 51 = .ok (.dstore_n 2, 1) := by decide +kernel
theorem dX10_drawRow_52 : decode cX10_drawRow 52 = .ok (.iinc 4 1, 3) := by decide +kernel
theorem dX10_drawRow_55 : decode cX10_drawRow 55 = .ok (.goto (-48), 3) := by decide +kernel
theorem dX10_drawRow_58 : decode cX10_drawRow 58 = .ok (.iload_n 1, 1) := by decide +kernel
theorem dX10_drawRow_59 : decode cX10_drawRow 59 = .ok (.aload_n 0, 1) := by decide +kernel
theorem dX10_drawRow_60 : decode cX10_drawRow 60 = .ok (.getfield 7, 3) := by decide +kernel
theorem dX10_drawRow_63 : decode cX10_drawRow 63 = .ok (.iconst 1, 1) := by decide +kernel
theorem dX10_drawRow_64 : decode cX10_drawRow 64 = .ok (.iaload, 1) := by decide +kernel
theorem dX10_drawRow_65 : decode cX10_drawRow 65 = .ok (.if_icmp .lt 7, 3) := by decide +kernel
theorem dX10_drawRow_68 : decode cX10_drawRow 68 = .ok (.iconst 1, 1) := by decide +kernel
theorem dX10_drawRow_69 : decode cX10_drawRow 69 = .ok (.goto 4, 3) := by decide +kernel
theorem dX10_drawRow_72 : decode cX10_drawRow 72 = .ok (.iconst 0, 1) := by decide +kernel
theorem dX10_drawRow_73 : decode cX10_drawRow 73 = .ok (.istore 4, 2) := by decide +kernel
theorem dX10_drawRow_75 : decode cX10_drawRow 75 = .ok (.aload_n 0, 1) := by decide +kernel
theorem dX10_drawRow_76 : decode cX10_drawRow 76 = .ok (.getfield 7, 3) := by decide +kernel
theorem dX10_drawRow_79 : decode cX10_drawRow 79 = .ok (.iconst 3, 1) := by decide +kernel
theorem dX10_drawRow_80 : decode cX10_drawRow 80 = .ok (.dup2, 1) := by decide +kernel
theorem dX10_drawRow_81 : decode cX10_drawRow 81 = .ok (.iaload, 1) := by decide +kernel
theorem dX10_drawRow_82 : decode cX10_drawRow 82 = .ok (.iconst 1, 1) := by decide +kernel
theorem dX10_drawRow_83 : decode cX10_drawRow 83 = .ok (.iadd, 1) := by decide +kernel
theorem dX10_drawRow_84 : decode cX10_drawRow 84 = .ok (.iastore, 1) := by decide +kernel
theorem dX10_drawRow_85 : decode cX10_drawRow 85 = .ok (.aload_n 0, 1) := by decide +kernel
theorem dX10_drawRow_86 : decode cX10_drawRow 86 = .ok (.getfield 7, 3) := by decide +kernel
theorem dX10_drawRow_89 : decode cX10_drawRow 89 = .ok (.iconst 4, 1) := by decide +kernel
theorem dX10_drawRow_90 : decode cX10_drawRow 90 = .ok (.dup2, 1) := by decide +kernel
theorem dX10_drawRow_91 : decode cX10_drawRow 91 = .ok (.iaload, 1) := by decide +kernel
theorem dX10_drawRow_92 : decode cX10_drawRow 92 = .ok (.iload 4, 2) := by decide +kernel
theorem dX10_drawRow_94 : decode cX10_drawRow 94 = .ok (.iadd, 1) := by decide +kernel
theorem dX10_drawRow_95 : decode cX10_drawRow 95 = .ok (.iastore, 1) := by decide +kernel
theorem dX10_drawRow_96 : decode cX10_drawRow 96 = .ok (.aload_n 0, 1) := by decide +kernel
theorem dX10_drawRow_97 : decode cX10_drawRow 97 = .ok (.getfield 13, 3) := by decide +kernel
theorem dX10_drawRow_100 : decode cX10_drawRow 100 = .ok (.iconst 0, 1) := by decide +kernel
theorem dX10_drawRow_101 : decode cX10_drawRow 101 = .ok (.dup2, 1) := by decide +kernel
theorem dX10_drawRow_102 : decode cX10_drawRow 102 = .ok (.daload, 1) := by decide +kernel
theorem dX10_drawRow_103 : decode cX10_drawRow 103 = .ok (.iload 4, 2) := by decide +kernel
theorem dX10_drawRow_105 : decode cX10_drawRow 105 = .ok (.iconst 1, 1) := by decide +kernel
theorem dX10_drawRow_106 : decode cX10_drawRow 106 = .ok (.if_icmp .ne 7, 3) := by decide +kernel
theorem dX10_drawRow_109 : decode cX10_drawRow 109 = .ok (.dload_n 2, 1) := by decide +kernel
theorem dX10_drawRow_110 : decode cX10_drawRow 110 = .ok (.goto 4, 3) := by decide +kernel
theorem dX10_drawRow_113 : decode cX10_drawRow 113 = .ok (.dconst 0, 1) := by decide +kernel
theorem dX10_drawRow_114 : decode cX10_drawRow 114 = .ok (.dadd, 1) := by decide +kernel
theorem dX10_drawRow_115 : decode cX10_drawRow 115 = .ok (.dastore, 1) := by decide +kernel
theorem dX10_drawRow_116 : decode cX10_drawRow 116 = .ok (.aload_n 0, 1) := by decide +kernel
theorem dX10_drawRow_117 : decode cX10_drawRow 117 = .ok (.getfield 13, 3) := by decide +kernel
theorem dX10_drawRow_120 : decode cX10_drawRow 120 = .ok (.iconst 1, 1) := by decide +kernel
theorem dX10_drawRow_121 : decode cX10_drawRow 121 = .ok (.dup2, 1) := by decide +kernel
theorem dX10_drawRow_122 : decode cX10_drawRow 122 = .ok (.daload, 1) := by decide +kernel
theorem dX10_drawRow_123 : decode cX10_drawRow 123 = .ok (.dload_n 2, 1) := by decide +kernel
theorem dX10_drawRow_124 : decode cX10_drawRow 124 = .ok (.dadd, 1) := by decide +kernel
theorem dX10_drawRow_125 : decode cX10_drawRow 125 = .ok (.dastore, 1) := by decide +kernel
theorem dX10_drawRow_126 : decode cX10_drawRow 126 = .ok (.aload_n 0, 1) := by decide +kernel
theorem dX10_drawRow_127 : decode cX10_drawRow 127 = .ok (.getfield 13, 3) := by decide +kernel
theorem dX10_drawRow_130 : decode cX10_drawRow 130 = .ok (.iconst 2, 1) := by decide +kernel
theorem dX10_drawRow_131 : decode cX10_drawRow 131 = .ok (.dup2, 1) := by decide +kernel
theorem dX10_drawRow_132 : decode cX10_drawRow 132 = .ok (.daload, 1) := by decide +kernel
theorem dX10_drawRow_133 : decode cX10_drawRow 133 = .ok (.dload_n 2, 1) := by decide +kernel
theorem dX10_drawRow_134 : decode cX10_drawRow 134 = .ok (.dload_n 2, 1) := by decide +kernel
theorem dX10_drawRow_135 : decode cX10_drawRow 135 = .ok (.dmul, 1) := by decide +kernel
theorem dX10_drawRow_136 : decode cX10_drawRow 136 = .ok (.dadd, 1) := by decide +kernel
theorem dX10_drawRow_137 : decode cX10_drawRow 137 = .ok (.dastore, 1) := by decide +kernel
theorem dX10_drawRow_138 : decode cX10_drawRow 138 = .ok (.aload_n 0, 1) := by decide +kernel
theorem dX10_drawRow_139 : decode cX10_drawRow 139 = .ok (.getfield 13, 3) := by decide +kernel
theorem dX10_drawRow_142 : decode cX10_drawRow 142 = .ok (.iconst 3, 1) := by decide +kernel
theorem dX10_drawRow_143 : decode cX10_drawRow 143 = .ok (.dload_n 2, 1) := by decide +kernel
theorem dX10_drawRow_144 : decode cX10_drawRow 144 = .ok (.dastore, 1) := by decide +kernel
theorem dX10_drawRow_145 : decode cX10_drawRow 145 = .ok (.iload 4, 2) := by decide +kernel
theorem dX10_drawRow_147 : decode cX10_drawRow 147 = .ok (.ireturn, 1) := by decide +kernel
theorem dX10_layWays_0 : decode cX10_layWays 0 = .ok (.iconst 0, 1) := by decide +kernel
theorem dX10_layWays_1 : decode cX10_layWays 1 = .ok (.istore_n 2, 1) := by decide +kernel
theorem dX10_layWays_2 : decode cX10_layWays 2 = .ok (.iload_n 2, 1) := by decide +kernel
theorem dX10_layWays_3 : decode cX10_layWays 3 = .ok (.bipush 31, 2) := by decide +kernel
theorem dX10_layWays_5 : decode cX10_layWays 5 = .ok (.if_icmp .ge 24, 3) := by decide +kernel
theorem dX10_layWays_8 : decode cX10_layWays 8 = .ok (.aload_n 0, 1) := by decide +kernel
theorem dX10_layWays_9 : decode cX10_layWays 9 = .ok (.getfield 26, 3) := by decide +kernel
theorem dX10_layWays_12 : decode cX10_layWays 12 = .ok (.iload_n 2, 1) := by decide +kernel
theorem dX10_layWays_13 : decode cX10_layWays 13 = .ok (.iload_n 2, 1) := by decide +kernel
theorem dX10_layWays_14 : decode cX10_layWays 14 = .ok (.ifCond .ne 7, 3) := by decide +kernel
theorem dX10_layWays_17 : decode cX10_layWays 17 = .ok (.lconst 1, 1) := by decide +kernel
theorem dX10_layWays_18 : decode cX10_layWays 18 = .ok (.goto 4, 3) := by decide +kernel
theorem dX10_layWays_21 : decode cX10_layWays 21 = .ok (.lconst 0, 1) := by decide +kernel
theorem dX10_layWays_22 : decode cX10_layWays 22 = .ok (.lastore, 1) := by decide +kernel
theorem dX10_layWays_23 : decode cX10_layWays 23 = .ok (.iinc 2 1, 3) := by decide +kernel
theorem dX10_layWays_26 : decode cX10_layWays 26 = .ok (.goto (-24), 3) := by decide +kernel
theorem dX10_layWays_29 : decode cX10_layWays 29 = .ok (.iconst 0, 1) := by decide +kernel
theorem dX10_layWays_30 : decode cX10_layWays 30 = .ok (.istore_n 2, 1) := by decide +kernel
theorem dX10_layWays_31 : decode cX10_layWays 31 = .ok (.iload_n 2, 1) := by decide +kernel
theorem dX10_layWays_32 : decode cX10_layWays 32 = .ok (.aload_n 0, 1) := by decide +kernel
theorem dX10_layWays_33 : decode cX10_layWays 33 = .ok (.getfield 7, 3) := by decide +kernel
theorem dX10_layWays_36 : decode cX10_layWays 36 = .ok (.iconst 0, 1) := by decide +kernel
theorem dX10_layWays_37 : decode cX10_layWays 37 = .ok (.iaload, 1) := by decide +kernel
theorem dX10_layWays_38 : decode cX10_layWays 38 = .ok (.if_icmp .ge 19, 3) := by decide +kernel
theorem dX10_layWays_41 : decode cX10_layWays 41 = .ok (.iload_n 2, 1) := by decide +kernel
theorem dX10_layWays_42 : decode cX10_layWays 42 = .ok (.iload_n 1, 1) := by decide +kernel
theorem dX10_layWays_43 : decode cX10_layWays 43 = .ok (.if_icmp .eq 8, 3) := by decide +kernel
theorem dX10_layWays_46 : decode cX10_layWays 46 = .ok (.aload_n 0, 1) := by decide +kernel
theorem dX10_layWays_47 : decode cX10_layWays 47 = .ok (.iload_n 2, 1) := by decide +kernel
theorem dX10_layWays_48 : decode cX10_layWays 48 = .ok (.invokevirtual 78, 3) := by decide +kernel
theorem dX10_layWays_51 : decode cX10_layWays 51 = .ok (.iinc 2 1, 3) := by decide +kernel
theorem dX10_layWays_54 : decode cX10_layWays 54 = .ok (.goto (-23), 3) := by decide +kernel
theorem dX10_layWays_57 : decode cX10_layWays 57 = .ok (.return_, 1) := by decide +kernel
theorem dX10_addPartWays_0 : decode cX10_addPartWays 0 = .ok (.bipush 30, 2) := by decide +kernel
theorem dX10_addPartWays_2 : decode cX10_addPartWays 2 = .ok (.istore_n 2, 1) := by decide +kernel
theorem dX10_addPartWays_3 : decode cX10_addPartWays 3 = .ok (.iload_n 2, 1) := by decide +kernel
theorem dX10_addPartWays_4 : decode cX10_addPartWays 4 = .ok (.ifCond .lt 61, 3) := by decide +kernel
theorem dX10_addPartWays_7 : decode cX10_addPartWays 7 = .ok (.lconst 0, 1) := by decide +kernel
theorem dX10_addPartWays_8 : decode cX10_addPartWays 8 = .ok (.lstore_n 3, 1) := by decide +kernel
theorem dX10_addPartWays_9 : decode cX10_addPartWays 9 = .ok (.iconst 0, 1) := by decide +kernel
theorem dX10_addPartWays_10 : decode cX10_addPartWays 10 = .ok (.istore 5, 2) := by decide +kernel
theorem dX10_addPartWays_12 : decode cX10_addPartWays 12 = .ok (.iload 5, 2) := by decide +kernel
theorem dX10_addPartWays_14 : decode cX10_addPartWays 14 = .ok (.bipush 6, 2) := by decide +kernel
theorem dX10_addPartWays_16 : decode cX10_addPartWays 16 = .ok (.if_icmp .ge 36, 3) := by decide +kernel
theorem dX10_addPartWays_19 : decode cX10_addPartWays 19 = .ok (.iload 5, 2) := by decide +kernel
theorem dX10_addPartWays_21 : decode cX10_addPartWays 21 = .ok (.iload_n 2, 1) := by decide +kernel
theorem dX10_addPartWays_22 : decode cX10_addPartWays 22 = .ok (.if_icmp .gt 30, 3) := by decide +kernel
theorem dX10_addPartWays_25 : decode cX10_addPartWays 25 = .ok (.lload_n 3, 1) := by decide +kernel
theorem dX10_addPartWays_26 : decode cX10_addPartWays 26 = .ok (.aload_n 0, 1) := by decide +kernel
theorem dX10_addPartWays_27 : decode cX10_addPartWays 27 = .ok (.getfield 26, 3) := by decide +kernel
theorem dX10_addPartWays_30 : decode cX10_addPartWays 30 = .ok (.iload_n 2, 1) := by decide +kernel
theorem dX10_addPartWays_31 : decode cX10_addPartWays 31 = .ok (.iload 5, 2) := by decide +kernel
theorem dX10_addPartWays_33 : decode cX10_addPartWays 33 = .ok (.isub, 1) := by decide +kernel
theorem dX10_addPartWays_34 : decode cX10_addPartWays 34 = .ok (.laload, 1) := by decide +kernel
theorem dX10_addPartWays_35 : decode cX10_addPartWays 35 = .ok (.aload_n 0, 1) := by decide +kernel
theorem dX10_addPartWays_36 : decode cX10_addPartWays 36 = .ok (.iload_n 1, 1) := by decide +kernel
theorem dX10_addPartWays_37 : decode cX10_addPartWays 37 = .ok (.iload 5, 2) := by decide +kernel
theorem dX10_addPartWays_39 : decode cX10_addPartWays 39 = .ok (.invokevirtual 50, 3) := by decide +kernel
theorem dX10_addPartWays_42 : decode cX10_addPartWays 42 = .ok (.i2l, 1) := by decide +kernel
theorem dX10_addPartWays_43 : decode cX10_addPartWays 43 = .ok (.lmul, 1) := by decide +kernel
theorem dX10_addPartWays_44 : decode cX10_addPartWays 44 = .ok (.ladd, 1) := by decide +kernel
theorem dX10_addPartWays_45 : decode cX10_addPartWays 45 = .ok (.lstore_n 3, 1) := by decide +kernel
theorem dX10_addPartWays_46 : decode cX10_addPartWays 46 = .ok (.iinc 5 1, 3) := by decide +kernel
theorem dX10_addPartWays_49 : decode cX10_addPartWays 49 = .ok (.goto (-37), 3) := by decide +kernel
theorem dX10_addPartWays_52 : decode cX10_addPartWays 52 = .ok (.aload_n 0, 1) := by decide +kernel
theorem dX10_addPartWays_53 : decode cX10_addPartWays 53 = .ok (.getfield 26, 3) := by decide +kernel
theorem dX10_addPartWays_56 : decode cX10_addPartWays 56 = .ok (.iload_n 2, 1) := by decide +kernel
theorem dX10_addPartWays_57 : decode cX10_addPartWays 57 = .ok (.lload_n 3, 1) := by decide +kernel
theorem dX10_addPartWays_58 : decode cX10_addPartWays 58 = .ok (.lastore, 1) := by decide +kernel
theorem dX10_addPartWays_59 : decode cX10_addPartWays 59 = .ok (.iinc 2 (-1), 3) := by decide +kernel
theorem dX10_addPartWays_62 : decode cX10_addPartWays 62 = .ok (.goto (-59), 3) := by decide +kernel
theorem dX10_addPartWays_65 : decode cX10_addPartWays 65 = .ok (.return_, 1) := by decide +kernel
theorem dX10_waysFrom_0 : decode cX10_waysFrom 0 = .ok (.lconst 0, 1) := by decide +kernel
theorem dX10_waysFrom_1 : decode cX10_waysFrom 1 = .ok (.lstore_n 2, 1) := by decide +kernel
theorem dX10_waysFrom_2 : decode cX10_waysFrom 2 = .ok (.iload_n 1, 1) := by decide +kernel
theorem dX10_waysFrom_3 : decode cX10_waysFrom 3 = .ok (.istore 4, 2) := by decide +kernel
theorem dX10_waysFrom_5 : decode cX10_waysFrom 5 = .ok (.iload 4, 2) := by decide +kernel
theorem dX10_waysFrom_7 : decode cX10_waysFrom 7 = .ok (.bipush 31, 2) := by decide +kernel
theorem dX10_waysFrom_9 : decode cX10_waysFrom 9 = .ok (.if_icmp .ge 19, 3) := by decide +kernel
theorem dX10_waysFrom_12 : decode cX10_waysFrom 12 = .ok (.lload_n 2, 1) := by decide +kernel
theorem dX10_waysFrom_13 : decode cX10_waysFrom 13 = .ok (.aload_n 0, 1) := by decide +kernel
theorem dX10_waysFrom_14 : decode cX10_waysFrom 14 = .ok (.getfield 26, 3) := by decide +kernel
theorem dX10_waysFrom_17 : decode cX10_waysFrom 17 = .ok (.iload 4, 2) := by decide +kernel
theorem dX10_waysFrom_19 : decode cX10_waysFrom 19 = .ok (.laload, 1) := by decide +kernel
theorem dX10_waysFrom_20 : decode cX10_waysFrom 20 = .ok (.ladd, 1) := by decide +kernel
theorem dX10_waysFrom_21 : decode cX10_waysFrom 21 = .ok (.lstore_n 2, 1) := by decide +kernel
theorem dX10_waysFrom_22 : decode cX10_waysFrom 22 = .ok (.iinc 4 1, 3) := by decide +kernel
theorem dX10_waysFrom_25 : decode cX10_waysFrom 25 = .ok (.goto (-20), 3) := by decide +kernel
theorem dX10_waysFrom_28 : decode cX10_waysFrom 28 = .ok (.lload_n 2, 1) := by decide +kernel
theorem dX10_waysFrom_29 : decode cX10_waysFrom 29 = .ok (.lreturn, 1) := by decide +kernel
theorem dX10_oddsBy_0 : decode cX10_oddsBy 0 = .ok (.aload_n 0, 1) := by decide +kernel
theorem dX10_oddsBy_1 : decode cX10_oddsBy 1 = .ok (.iload_n 2, 1) := by decide +kernel
theorem dX10_oddsBy_2 : decode cX10_oddsBy 2 = .ok (.invokevirtual 82, 3) := by decide +kernel
theorem dX10_oddsBy_5 : decode cX10_oddsBy 5 = .ok (.aload_n 0, 1) := by decide +kernel
theorem dX10_oddsBy_6 : decode cX10_oddsBy 6 = .ok (.iload_n 1, 1) := by decide +kernel
theorem dX10_oddsBy_7 : decode cX10_oddsBy 7 = .ok (.invokevirtual 85, 3) := by decide +kernel
theorem dX10_oddsBy_10 : decode cX10_oddsBy 10 = .ok (.l2d, 1) := by decide +kernel
theorem dX10_oddsBy_11 : decode cX10_oddsBy 11 = .ok (.aload_n 0, 1) := by decide +kernel
theorem dX10_oddsBy_12 : decode cX10_oddsBy 12 = .ok (.iconst 0, 1) := by decide +kernel
theorem dX10_oddsBy_13 : decode cX10_oddsBy 13 = .ok (.invokevirtual 85, 3) := by decide +kernel
theorem dX10_oddsBy_16 : decode cX10_oddsBy 16 = .ok (.l2d, 1) := by decide +kernel
theorem dX10_oddsBy_17 : decode cX10_oddsBy 17 = .ok (.ddiv, 1) := by decide +kernel
theorem dX10_oddsBy_18 : decode cX10_oddsBy 18 = .ok (.dreturn, 1) := by decide +kernel
theorem dX10_layMost_0 : decode cX10_layMost 0 = .ok (.iconst 0, 1) := by decide +kernel
theorem dX10_layMost_1 : decode cX10_layMost 1 = .ok (.istore_n 1, 1) := by decide +kernel
theorem dX10_layMost_2 : decode cX10_layMost 2 = .ok (.iload_n 1, 1) := by decide +kernel
theorem dX10_layMost_3 : decode cX10_layMost 3 = .ok (.bipush 99, 2) := by decide +kernel
theorem dX10_layMost_5 : decode cX10_layMost 5 = .ok (.if_icmp .gt 34, 3) := by decide +kernel
theorem dX10_layMost_8 : decode cX10_layMost 8 = .ok (.aload_n 0, 1) := by decide +kernel
theorem dX10_layMost_9 : decode cX10_layMost 9 = .ok (.getfield 30, 3) := by decide +kernel
theorem dX10_layMost_12 : decode cX10_layMost 12 = .ok (.bipush 100, 2) := by decide +kernel
theorem dX10_layMost_14 : decode cX10_layMost 14 = .ok (.aload_n 0, 1) := by decide +kernel
theorem dX10_layMost_15 : decode cX10_layMost 15 = .ok (.getfield 7, 3) := by decide +kernel
theorem dX10_layMost_18 : decode cX10_layMost 18 = .ok (.iconst 0, 1) := by decide +kernel
theorem dX10_layMost_19 : decode cX10_layMost 19 = .ok (.iaload, 1) := by decide +kernel
theorem dX10_layMost_20 : decode cX10_layMost 20 = .ok (.imul, 1) := by decide +kernel
theorem dX10_layMost_21 : decode cX10_layMost 21 = .ok (.iload_n 1, 1) := by decide +kernel
theorem dX10_layMost_22 : decode cX10_layMost 22 = .ok (.iadd, 1) := by decide +kernel
theorem dX10_layMost_23 : decode cX10_layMost 23 = .ok (.iload_n 1, 1) := by decide +kernel
theorem dX10_layMost_24 : decode cX10_layMost 24 = .ok (.ifCond .ne 7, 3) := by decide +kernel
theorem dX10_layMost_27 : decode cX10_layMost 27 = .ok (.iconst 1, 1) := by decide +kernel
theorem dX10_layMost_28 : decode cX10_layMost 28 = .ok (.goto 4, 3) := by decide +kernel
theorem dX10_layMost_31 : decode cX10_layMost 31 = .ok (.iconst 0, 1) := by decide +kernel
theorem dX10_layMost_32 : decode cX10_layMost 32 = .ok (.iastore, 1) := by decide +kernel
theorem dX10_layMost_33 : decode cX10_layMost 33 = .ok (.iinc 1 1, 3) := by decide +kernel
theorem dX10_layMost_36 : decode cX10_layMost 36 = .ok (.goto (-34), 3) := by decide +kernel
theorem dX10_layMost_39 : decode cX10_layMost 39 = .ok (.aload_n 0, 1) := by decide +kernel
theorem dX10_layMost_40 : decode cX10_layMost 40 = .ok (.getfield 7, 3) := by decide +kernel
theorem dX10_layMost_43 : decode cX10_layMost 43 = .ok (.iconst 0, 1) := by decide +kernel
theorem dX10_layMost_44 : decode cX10_layMost 44 = .ok (.iaload, 1) := by decide +kernel
theorem dX10_layMost_45 : decode cX10_layMost 45 = .ok (.iconst 1, 1) := by decide +kernel
theorem dX10_layMost_46 : decode cX10_layMost 46 = .ok (.isub, 1) := by decide +kernel
theorem dX10_layMost_47 : decode cX10_layMost 47 = .ok (.istore_n 1, 1) := by decide +kernel
theorem dX10_layMost_48 : decode cX10_layMost 48 = .ok (.iload_n 1, 1) := by decide +kernel
theorem dX10_layMost_49 : decode cX10_layMost 49 = .ok (.ifCond .lt 76, 3) := by decide +kernel
theorem dX10_layMost_52 : decode cX10_layMost 52 = .ok (.iconst 0, 1) := by decide +kernel
theorem dX10_layMost_53 : decode cX10_layMost 53 = .ok (.istore_n 2, 1) := by decide +kernel
theorem dX10_layMost_54 : decode cX10_layMost 54 = .ok (.iload_n 2, 1) := by decide +kernel
theorem dX10_layMost_55 : decode cX10_layMost 55 = .ok (.bipush 99, 2) := by decide +kernel
theorem dX10_layMost_57 : decode cX10_layMost 57 = .ok (.if_icmp .gt 62, 3) := by decide +kernel
theorem dX10_layMost_60 : decode cX10_layMost 60 = .ok (.iconst 0, 1) := by decide +kernel
theorem dX10_layMost_61 : decode cX10_layMost 61 = .ok (.istore_n 3, 1) := by decide +kernel
theorem dX10_layMost_62 : decode cX10_layMost 62 = .ok (.iconst 0, 1) := by decide +kernel
theorem dX10_layMost_63 : decode cX10_layMost 63 = .ok (.istore 4, 2) := by decide +kernel
theorem dX10_layMost_65 : decode cX10_layMost 65 = .ok (.iload 4, 2) := by decide +kernel
theorem dX10_layMost_67 : decode cX10_layMost 67 = .ok (.bipush 6, 2) := by decide +kernel
theorem dX10_layMost_69 : decode cX10_layMost 69 = .ok (.if_icmp .ge 32, 3) := by decide +kernel
theorem dX10_layMost_72 : decode cX10_layMost 72 = .ok (.aload_n 0, 1) := by decide +kernel
theorem dX10_layMost_73 : decode cX10_layMost 73 = .ok (.iload_n 1, 1) := by decide +kernel
theorem dX10_layMost_74 : decode cX10_layMost 74 = .ok (.iload_n 2, 1) := by decide +kernel
theorem dX10_layMost_75 : decode cX10_layMost 75 = .ok (.iload 4, 2) := by decide +kernel
theorem dX10_layMost_77 : decode cX10_layMost 77 = .ok (.invokevirtual 89, 3) := by decide +kernel
theorem dX10_layMost_80 : decode cX10_layMost 80 = .ok (.istore 5, 2) := by decide +kernel
theorem dX10_layMost_82 : decode cX10_layMost 82 = .ok (.iload 5, 2) := by decide +kernel
theorem dX10_layMost_84 : decode cX10_layMost 84 = .ok (.iload_n 3, 1) := by decide +kernel
theorem dX10_layMost_85 : decode cX10_layMost 85 = .ok (.if_icmp .le 8, 3) := by decide +kernel
theorem dX10_layMost_88 : decode cX10_layMost 88 = .ok (.iload 5, 2) := by decide +kernel
theorem dX10_layMost_90 : decode cX10_layMost 90 = .ok (.goto 4, 3) := by decide +kernel
theorem dX10_layMost_93 : decode cX10_layMost 93 = .ok (.iload_n 3, 1) := by decide +kernel
theorem dX10_layMost_94 : decode cX10_layMost 94 = .ok (.istore_n 3, 1) := by decide +kernel
theorem dX10_layMost_95 : decode cX10_layMost 95 = .ok (.iinc 4 1, 3) := by decide +kernel
theorem dX10_layMost_98 : decode cX10_layMost 98 = .ok (.goto (-33), 3) := by decide +kernel
theorem dX10_layMost_101 : decode cX10_layMost 101 = .ok (.aload_n 0, 1) := by decide +kernel
theorem dX10_layMost_102 : decode cX10_layMost 102 = .ok (.getfield 30, 3) := by decide +kernel
theorem dX10_layMost_105 : decode cX10_layMost 105 = .ok (.bipush 100, 2) := by decide +kernel
theorem dX10_layMost_107 : decode cX10_layMost 107 = .ok (.iload_n 1, 1) := by decide +kernel
theorem dX10_layMost_108 : decode cX10_layMost 108 = .ok (.imul, 1) := by decide +kernel
theorem dX10_layMost_109 : decode cX10_layMost 109 = .ok (.iload_n 2, 1) := by decide +kernel
theorem dX10_layMost_110 : decode cX10_layMost 110 = .ok (.iadd, 1) := by decide +kernel
theorem dX10_layMost_111 : decode cX10_layMost 111 = .ok (.iload_n 3, 1) := by decide +kernel
theorem dX10_layMost_112 : decode cX10_layMost 112 = .ok (.iastore, 1) := by decide +kernel
theorem dX10_layMost_113 : decode cX10_layMost 113 = .ok (.iinc 2 1, 3) := by decide +kernel
theorem dX10_layMost_116 : decode cX10_layMost 116 = .ok (.goto (-62), 3) := by decide +kernel
theorem dX10_layMost_119 : decode cX10_layMost 119 = .ok (.iinc 1 (-1), 3) := by decide +kernel
theorem dX10_layMost_122 : decode cX10_layMost 122 = .ok (.goto (-74), 3) := by decide +kernel
theorem dX10_layMost_125 : decode cX10_layMost 125 = .ok (.return_, 1) := by decide +kernel
theorem dX10_mostBy_0 : decode cX10_mostBy 0 = .ok (.iload_n 2, 1) := by decide +kernel
theorem dX10_mostBy_1 : decode cX10_mostBy 1 = .ok (.iload_n 3, 1) := by decide +kernel
theorem dX10_mostBy_2 : decode cX10_mostBy 2 = .ok (.if_icmp .le 9, 3) := by decide +kernel
theorem dX10_mostBy_5 : decode cX10_mostBy 5 = .ok (.iload_n 2, 1) := by decide +kernel
theorem dX10_mostBy_6 : decode cX10_mostBy 6 = .ok (.iload_n 3, 1) := by decide +kernel
theorem dX10_mostBy_7 : decode cX10_mostBy 7 = .ok (.isub, 1) := by decide +kernel
theorem dX10_mostBy_8 : decode cX10_mostBy 8 = .ok (.goto 4, 3) := by decide +kernel
theorem dX10_mostBy_11 : decode cX10_mostBy 11 = .ok (.iconst 0, 1) := by decide +kernel
theorem dX10_mostBy_12 : decode cX10_mostBy 12 = .ok (.istore 4, 2) := by decide +kernel
theorem dX10_mostBy_14 : decode cX10_mostBy 14 = .ok (.aload_n 0, 1) := by decide +kernel
theorem dX10_mostBy_15 : decode cX10_mostBy 15 = .ok (.iload_n 1, 1) := by decide +kernel
theorem dX10_mostBy_16 : decode cX10_mostBy 16 = .ok (.iload_n 3, 1) := by decide +kernel
theorem dX10_mostBy_17 : decode cX10_mostBy 17 = .ok (.invokevirtual 50, 3) := by decide +kernel
theorem dX10_mostBy_20 : decode cX10_mostBy 20 = .ok (.aload_n 0, 1) := by decide +kernel
theorem dX10_mostBy_21 : decode cX10_mostBy 21 = .ok (.getfield 30, 3) := by decide +kernel
theorem dX10_mostBy_24 : decode cX10_mostBy 24 = .ok (.bipush 100, 2) := by decide +kernel
theorem dX10_mostBy_26 : decode cX10_mostBy 26 = .ok (.iload_n 1, 1) := by decide +kernel
theorem dX10_mostBy_27 : decode cX10_mostBy 27 = .ok (.imul, 1) := by decide +kernel
theorem dX10_mostBy_28 : decode cX10_mostBy 28 = .ok (.bipush 100, 2) := by decide +kernel
theorem dX10_mostBy_30 : decode cX10_mostBy 30 = .ok (.iadd, 1) := by decide +kernel
theorem dX10_mostBy_31 : decode cX10_mostBy 31 = .ok (.iload 4, 2) := by decide +kernel
theorem dX10_mostBy_33 : decode cX10_mostBy 33 = .ok (.iadd, 1) := by decide +kernel
theorem dX10_mostBy_34 : decode cX10_mostBy 34 = .ok (.iaload, 1) := by decide +kernel
theorem dX10_mostBy_35 : decode cX10_mostBy 35 = .ok (.imul, 1) := by decide +kernel
theorem dX10_mostBy_36 : decode cX10_mostBy 36 = .ok (.ireturn, 1) := by decide +kernel
theorem dX10_likeliestWays_0 : decode cX10_likeliestWays 0 = .ok (.aload_n 0, 1) := by decide +kernel
theorem dX10_likeliestWays_1 : decode cX10_likeliestWays 1 = .ok (.invokevirtual 93, 3) := by decide +kernel
theorem dX10_likeliestWays_4 : decode cX10_likeliestWays 4 = .ok (.aload_n 0, 1) := by decide +kernel
theorem dX10_likeliestWays_5 : decode cX10_likeliestWays 5 = .ok (.getfield 30, 3) := by decide +kernel
theorem dX10_likeliestWays_8 : decode cX10_likeliestWays 8 = .ok (.aload_n 0, 1) := by decide +kernel
theorem dX10_likeliestWays_9 : decode cX10_likeliestWays 9 = .ok (.getfield 7, 3) := by decide +kernel
theorem dX10_likeliestWays_12 : decode cX10_likeliestWays 12 = .ok (.iconst 1, 1) := by decide +kernel
theorem dX10_likeliestWays_13 : decode cX10_likeliestWays 13 = .ok (.iaload, 1) := by decide +kernel
theorem dX10_likeliestWays_14 : decode cX10_likeliestWays 14 = .ok (.iaload, 1) := by decide +kernel
theorem dX10_likeliestWays_15 : decode cX10_likeliestWays 15 = .ok (.ireturn, 1) := by decide +kernel
theorem dX10_likeliestLoad_0 : decode cX10_likeliestLoad 0 = .ok (.aload_n 0, 1) := by decide +kernel
theorem dX10_likeliestLoad_1 : decode cX10_likeliestLoad 1 = .ok (.invokevirtual 96, 3) := by decide +kernel
theorem dX10_likeliestLoad_4 : decode cX10_likeliestLoad 4 = .ok (.ifCond .ne 5, 3) := by decide +kernel
theorem dX10_likeliestLoad_7 : decode cX10_likeliestLoad 7 = .ok (.iconst (-1), 1) := by decide +kernel
theorem dX10_likeliestLoad_8 : decode cX10_likeliestLoad 8 = .ok (.ireturn, 1) := by decide +kernel
theorem dX10_likeliestLoad_9 : decode cX10_likeliestLoad 9 = .ok (.aload_n 0, 1) := by decide +kernel
theorem dX10_likeliestLoad_10 : decode cX10_likeliestLoad 10 = .ok (.getfield 7, 3) := by decide +kernel
theorem dX10_likeliestLoad_13 : decode cX10_likeliestLoad 13 = .ok (.iconst 1, 1) := by decide +kernel
theorem dX10_likeliestLoad_14 : decode cX10_likeliestLoad 14 = .ok (.iaload, 1) := by decide +kernel
theorem dX10_likeliestLoad_15 : decode cX10_likeliestLoad 15 = .ok (.istore_n 2, 1) := by decide +kernel
theorem dX10_likeliestLoad_16 : decode cX10_likeliestLoad 16 = .ok (.iconst 0, 1) := by decide +kernel
theorem dX10_likeliestLoad_17 : decode cX10_likeliestLoad 17 = .ok (.istore_n 3, 1) := by decide +kernel
theorem dX10_likeliestLoad_18 : decode cX10_likeliestLoad 18 = .ok (.iconst 0, 1) := by decide +kernel
theorem dX10_likeliestLoad_19 : decode cX10_likeliestLoad 19 = .ok (.istore 4, 2) := by decide +kernel
theorem dX10_likeliestLoad_21 : decode cX10_likeliestLoad 21 = .ok (.iload 4, 2) := by decide +kernel
theorem dX10_likeliestLoad_23 : decode cX10_likeliestLoad 23 = .ok (.iload_n 1, 1) := by decide +kernel
theorem dX10_likeliestLoad_24 : decode cX10_likeliestLoad 24 = .ok (.if_icmp .gt 53, 3) := by decide +kernel
theorem dX10_likeliestLoad_27 : decode cX10_likeliestLoad 27 = .ok (.iconst 0, 1) := by decide +kernel
theorem dX10_likeliestLoad_28 : decode cX10_likeliestLoad 28 = .ok (.istore_n 3, 1) := by decide +kernel
theorem dX10_likeliestLoad_29 : decode cX10_likeliestLoad 29 = .ok (.aload_n 0, 1) := by decide +kernel
theorem dX10_likeliestLoad_30 : decode cX10_likeliestLoad 30 = .ok (.iload 4, 2) := by decide +kernel
theorem dX10_likeliestLoad_32 : decode cX10_likeliestLoad 32 = .ok (.iload_n 2, 1) := by decide +kernel
theorem dX10_likeliestLoad_33 : decode cX10_likeliestLoad 33 = .ok (.iload_n 3, 1) := by decide +kernel
theorem dX10_likeliestLoad_34 : decode cX10_likeliestLoad 34 = .ok (.invokevirtual 89, 3) := by decide +kernel
theorem dX10_likeliestLoad_37 : decode cX10_likeliestLoad 37 = .ok (.aload_n 0, 1) := by decide +kernel
theorem dX10_likeliestLoad_38 : decode cX10_likeliestLoad 38 = .ok (.getfield 30, 3) := by decide +kernel
theorem dX10_likeliestLoad_41 : decode cX10_likeliestLoad 41 = .ok (.bipush 100, 2) := by decide +kernel
theorem dX10_likeliestLoad_43 : decode cX10_likeliestLoad 43 = .ok (.iload 4, 2) := by decide +kernel
theorem dX10_likeliestLoad_45 : decode cX10_likeliestLoad 45 = .ok (.imul, 1) := by decide +kernel
theorem dX10_likeliestLoad_46 : decode cX10_likeliestLoad 46 = .ok (.iload_n 2, 1) := by decide +kernel
theorem dX10_likeliestLoad_47 : decode cX10_likeliestLoad 47 = .ok (.iadd, 1) := by decide +kernel
theorem dX10_likeliestLoad_48 : decode cX10_likeliestLoad 48 = .ok (.iaload, 1) := by decide +kernel
theorem dX10_likeliestLoad_49 : decode cX10_likeliestLoad 49 = .ok (.if_icmp .eq 9, 3) := by decide +kernel
theorem dX10_likeliestLoad_52 : decode cX10_likeliestLoad 52 = .ok (.iinc 3 1, 3) := by decide +kernel
theorem dX10_likeliestLoad_55 : decode cX10_likeliestLoad 55 = .ok (.goto (-26), 3) := by decide +kernel
theorem dX10_likeliestLoad_58 : decode cX10_likeliestLoad 58 = .ok (.iload_n 2, 1) := by decide +kernel
theorem dX10_likeliestLoad_59 : decode cX10_likeliestLoad 59 = .ok (.iload_n 3, 1) := by decide +kernel
theorem dX10_likeliestLoad_60 : decode cX10_likeliestLoad 60 = .ok (.if_icmp .le 9, 3) := by decide +kernel
theorem dX10_likeliestLoad_63 : decode cX10_likeliestLoad 63 = .ok (.iload_n 2, 1) := by decide +kernel
theorem dX10_likeliestLoad_64 : decode cX10_likeliestLoad 64 = .ok (.iload_n 3, 1) := by decide +kernel
theorem dX10_likeliestLoad_65 : decode cX10_likeliestLoad 65 = .ok (.isub, 1) := by decide +kernel
theorem dX10_likeliestLoad_66 : decode cX10_likeliestLoad 66 = .ok (.goto 4, 3) := by decide +kernel
theorem dX10_likeliestLoad_69 : decode cX10_likeliestLoad 69 = .ok (.iconst 0, 1) := by decide +kernel
theorem dX10_likeliestLoad_70 : decode cX10_likeliestLoad 70 = .ok (.istore_n 2, 1) := by decide +kernel
theorem dX10_likeliestLoad_71 : decode cX10_likeliestLoad 71 = .ok (.iinc 4 1, 3) := by decide +kernel
theorem dX10_likeliestLoad_74 : decode cX10_likeliestLoad 74 = .ok (.goto (-53), 3) := by decide +kernel
theorem dX10_likeliestLoad_77 : decode cX10_likeliestLoad 77 = .ok (.iload_n 3, 1) := by decide +kernel
theorem dX10_likeliestLoad_78 : decode cX10_likeliestLoad 78 = .ok (.ireturn, 1) := by decide +kernel
theorem dX10_layPart_0 : decode cX10_layPart 0 = .ok (.iconst 0, 1) := by decide +kernel
theorem dX10_layPart_1 : decode cX10_layPart 1 = .ok (.istore_n 2, 1) := by decide +kernel
theorem dX10_layPart_2 : decode cX10_layPart 2 = .ok (.iload_n 2, 1) := by decide +kernel
theorem dX10_layPart_3 : decode cX10_layPart 3 = .ok (.bipush 6, 2) := by decide +kernel
theorem dX10_layPart_5 : decode cX10_layPart 5 = .ok (.if_icmp .ge 29, 3) := by decide +kernel
theorem dX10_layPart_8 : decode cX10_layPart 8 = .ok (.aload_n 0, 1) := by decide +kernel
theorem dX10_layPart_9 : decode cX10_layPart 9 = .ok (.getfield 7, 3) := by decide +kernel
theorem dX10_layPart_12 : decode cX10_layPart 12 = .ok (.bipush 47, 2) := by decide +kernel
theorem dX10_layPart_14 : decode cX10_layPart 14 = .ok (.bipush 6, 2) := by decide +kernel
theorem dX10_layPart_16 : decode cX10_layPart 16 = .ok (.iload_n 1, 1) := by decide +kernel
theorem dX10_layPart_17 : decode cX10_layPart 17 = .ok (.imul, 1) := by decide +kernel
theorem dX10_layPart_18 : decode cX10_layPart 18 = .ok (.iadd, 1) := by decide +kernel
theorem dX10_layPart_19 : decode cX10_layPart 19 = .ok (.iload_n 2, 1) := by decide +kernel
theorem dX10_layPart_20 : decode cX10_layPart 20 = .ok (.iadd, 1) := by decide +kernel
theorem dX10_layPart_21 : decode cX10_layPart 21 = .ok (.aload_n 0, 1) := by decide +kernel
theorem dX10_layPart_22 : decode cX10_layPart 22 = .ok (.iload_n 1, 1) := by decide +kernel
theorem dX10_layPart_23 : decode cX10_layPart 23 = .ok (.iload_n 2, 1) := by decide +kernel
theorem dX10_layPart_24 : decode cX10_layPart 24 = .ok (.invokevirtual 50, 3) := by decide +kernel
theorem dX10_layPart_27 : decode cX10_layPart 27 = .ok (.iastore, 1) := by decide +kernel
theorem dX10_layPart_28 : decode cX10_layPart 28 = .ok (.iinc 2 1, 3) := by decide +kernel
theorem dX10_layPart_31 : decode cX10_layPart 31 = .ok (.goto (-29), 3) := by decide +kernel
theorem dX10_layPart_34 : decode cX10_layPart 34 = .ok (.return_, 1) := by decide +kernel
theorem dX10_addPart_0 : decode cX10_addPart 0 = .ok (.aload_n 0, 1) := by decide +kernel
theorem dX10_addPart_1 : decode cX10_addPart 1 = .ok (.iload_n 1, 1) := by decide +kernel
theorem dX10_addPart_2 : decode cX10_addPart 2 = .ok (.invokestatic 100, 3) := by decide +kernel
theorem dX10_addPart_5 : decode cX10_addPart 5 = .ok (.ifCond .ne 7, 3) := by decide +kernel
theorem dX10_addPart_8 : decode cX10_addPart 8 = .ok (.iconst 1, 1) := by decide +kernel
theorem dX10_addPart_9 : decode cX10_addPart 9 = .ok (.goto 19, 3) := by decide +kernel
theorem dX10_addPart_12 : decode cX10_addPart 12 = .ok (.aload_n 0, 1) := by decide +kernel
theorem dX10_addPart_13 : decode cX10_addPart 13 = .ok (.getfield 7, 3) := by decide +kernel
theorem dX10_addPart_16 : decode cX10_addPart 16 = .ok (.iconst 0, 1) := by decide +kernel
theorem dX10_addPart_17 : decode cX10_addPart 17 = .ok (.iaload, 1) := by decide +kernel
theorem dX10_addPart_18 : decode cX10_addPart 18 = .ok (.bipush 6, 2) := by decide +kernel
theorem dX10_addPart_20 : decode cX10_addPart 20 = .ok (.if_icmp .ne 7, 3) := by decide +kernel
theorem dX10_addPart_23 : decode cX10_addPart 23 = .ok (.iconst 2, 1) := by decide +kernel
theorem dX10_addPart_24 : decode cX10_addPart 24 = .ok (.goto 4, 3) := by decide +kernel
theorem dX10_addPart_27 : decode cX10_addPart 27 = .ok (.iconst 0, 1) := by decide +kernel
theorem dX10_addPart_28 : decode cX10_addPart 28 = .ok (.putfield 39, 3) := by decide +kernel
theorem dX10_addPart_31 : decode cX10_addPart 31 = .ok (.aload_n 0, 1) := by decide +kernel
theorem dX10_addPart_32 : decode cX10_addPart 32 = .ok (.getfield 39, 3) := by decide +kernel
theorem dX10_addPart_35 : decode cX10_addPart 35 = .ok (.ifCond .le 5, 3) := by decide +kernel
theorem dX10_addPart_38 : decode cX10_addPart 38 = .ok (.iconst 0, 1) := by decide +kernel
theorem dX10_addPart_39 : decode cX10_addPart 39 = .ok (.ireturn, 1) := by decide +kernel
theorem dX10_addPart_40 : decode cX10_addPart 40 = .ok (.aload_n 0, 1) := by decide +kernel
theorem dX10_addPart_41 : decode cX10_addPart 41 = .ok (.invokevirtual 104, 3) := by decide +kernel
theorem dX10_addPart_44 : decode cX10_addPart 44 = .ok (.aload_n 0, 1) := by decide +kernel
theorem dX10_addPart_45 : decode cX10_addPart 45 = .ok (.invokevirtual 107, 3) := by decide +kernel
theorem dX10_addPart_48 : decode cX10_addPart 48 = .ok (.istore_n 2, 1) := by decide +kernel
theorem dX10_addPart_49 : decode cX10_addPart 49 = .ok (.iconst 0, 1) := by decide +kernel
theorem dX10_addPart_50 : decode cX10_addPart 50 = .ok (.istore_n 3, 1) := by decide +kernel
theorem dX10_addPart_51 : decode cX10_addPart 51 = .ok (.iload_n 3, 1) := by decide +kernel
theorem dX10_addPart_52 : decode cX10_addPart 52 = .ok (.bipush 6, 2) := by decide +kernel
theorem dX10_addPart_54 : decode cX10_addPart 54 = .ok (.if_icmp .ge 38, 3) := by decide +kernel
theorem dX10_addPart_57 : decode cX10_addPart 57 = .ok (.aload_n 0, 1) := by decide +kernel
theorem dX10_addPart_58 : decode cX10_addPart 58 = .ok (.getfield 7, 3) := by decide +kernel
theorem dX10_addPart_61 : decode cX10_addPart 61 = .ok (.bipush 11, 2) := by decide +kernel
theorem dX10_addPart_63 : decode cX10_addPart 63 = .ok (.bipush 6, 2) := by decide +kernel
theorem dX10_addPart_65 : decode cX10_addPart 65 = .ok (.aload_n 0, 1) := by decide +kernel
theorem dX10_addPart_66 : decode cX10_addPart 66 = .ok (.getfield 7, 3) := by decide +kernel
theorem dX10_addPart_69 : decode cX10_addPart 69 = .ok (.iconst 0, 1) := by decide +kernel
theorem dX10_addPart_70 : decode cX10_addPart 70 = .ok (.iaload, 1) := by decide +kernel
theorem dX10_addPart_71 : decode cX10_addPart 71 = .ok (.imul, 1) := by decide +kernel
theorem dX10_addPart_72 : decode cX10_addPart 72 = .ok (.iadd, 1) := by decide +kernel
theorem dX10_addPart_73 : decode cX10_addPart 73 = .ok (.iload_n 3, 1) := by decide +kernel
theorem dX10_addPart_74 : decode cX10_addPart 74 = .ok (.iadd, 1) := by decide +kernel
theorem dX10_addPart_75 : decode cX10_addPart 75 = .ok (.iload_n 3, 1) := by decide +kernel
theorem dX10_addPart_76 : decode cX10_addPart 76 = .ok (.iload_n 1, 1) := by decide +kernel
theorem dX10_addPart_77 : decode cX10_addPart 77 = .ok (.if_icmp .gt 7, 3) := by decide +kernel
theorem dX10_addPart_80 : decode cX10_addPart 80 = .ok (.iconst 1, 1) := by decide +kernel
theorem dX10_addPart_81 : decode cX10_addPart 81 = .ok (.goto 4, 3) := by decide +kernel
theorem dX10_addPart_84 : decode cX10_addPart 84 = .ok (.iconst 0, 1) := by decide +kernel
theorem dX10_addPart_85 : decode cX10_addPart 85 = .ok (.iastore, 1) := by decide +kernel
theorem dX10_addPart_86 : decode cX10_addPart 86 = .ok (.iinc 3 1, 3) := by decide +kernel
theorem dX10_addPart_89 : decode cX10_addPart 89 = .ok (.goto (-38), 3) := by decide +kernel
theorem dX10_addPart_92 : decode cX10_addPart 92 = .ok (.aload_n 0, 1) := by decide +kernel
theorem dX10_addPart_93 : decode cX10_addPart 93 = .ok (.aload_n 0, 1) := by decide +kernel
theorem dX10_addPart_94 : decode cX10_addPart 94 = .ok (.getfield 7, 3) := by decide +kernel
theorem dX10_addPart_97 : decode cX10_addPart 97 = .ok (.iconst 0, 1) := by decide +kernel
theorem dX10_addPart_98 : decode cX10_addPart 98 = .ok (.iaload, 1) := by decide +kernel
theorem dX10_addPart_99 : decode cX10_addPart 99 = .ok (.invokevirtual 110, 3) := by decide +kernel
theorem dX10_addPart_102 : decode cX10_addPart 102 = .ok (.aload_n 0, 1) := by decide +kernel
theorem dX10_addPart_103 : decode cX10_addPart 103 = .ok (.getfield 7, 3) := by decide +kernel
theorem dX10_addPart_106 : decode cX10_addPart 106 = .ok (.iconst 0, 1) := by decide +kernel
theorem dX10_addPart_107 : decode cX10_addPart 107 = .ok (.dup2, 1) := by decide +kernel
theorem dX10_addPart_108 : decode cX10_addPart 108 = .ok (.iaload, 1) := by decide +kernel
theorem dX10_addPart_109 : decode cX10_addPart 109 = .ok (.iconst 1, 1) := by decide +kernel
theorem dX10_addPart_110 : decode cX10_addPart 110 = .ok (.iadd, 1) := by decide +kernel
theorem dX10_addPart_111 : decode cX10_addPart 111 = .ok (.iastore, 1) := by decide +kernel
theorem dX10_addPart_112 : decode cX10_addPart 112 = .ok (.aload_n 0, 1) := by decide +kernel
theorem dX10_addPart_113 : decode cX10_addPart 113 = .ok (.getfield 7, 3) := by decide +kernel
theorem dX10_addPart_116 : decode cX10_addPart 116 = .ok (.iconst 0, 1) := by decide +kernel
theorem dX10_addPart_117 : decode cX10_addPart 117 = .ok (.iaload, 1) := by decide +kernel
theorem dX10_addPart_118 : decode cX10_addPart 118 = .ok (.iconst 1, 1) := by decide +kernel
theorem dX10_addPart_119 : decode cX10_addPart 119 = .ok (.isub, 1) := by decide +kernel
theorem dX10_addPart_120 : decode cX10_addPart 120 = .ok (.ireturn, 1) := by decide +kernel
theorem dX10_removeFrom_0 : decode cX10_removeFrom 0 = .ok (.iload_n 1, 1) := by decide +kernel
theorem dX10_removeFrom_1 : decode cX10_removeFrom 1 = .ok (.bipush 6, 2) := by decide +kernel
theorem dX10_removeFrom_3 : decode cX10_removeFrom 3 = .ok (.iload_n 2, 1) := by decide +kernel
theorem dX10_removeFrom_4 : decode cX10_removeFrom 4 = .ok (.imul, 1) := by decide +kernel
theorem dX10_removeFrom_5 : decode cX10_removeFrom 5 = .ok (.iadd, 1) := by decide +kernel
theorem dX10_removeFrom_6 : decode cX10_removeFrom 6 = .ok (.istore_n 3, 1) := by decide +kernel
theorem dX10_removeFrom_7 : decode cX10_removeFrom 7 = .ok (.iload_n 3, 1) := by decide +kernel
theorem dX10_removeFrom_8 : decode cX10_removeFrom 8 = .ok (.iload_n 1, 1) := by decide +kernel
theorem dX10_removeFrom_9 : decode cX10_removeFrom 9 = .ok (.bipush 6, 2) := by decide +kernel
theorem dX10_removeFrom_11 : decode cX10_removeFrom 11 = .ok (.aload_n 0, 1) := by decide +kernel
theorem dX10_removeFrom_12 : decode cX10_removeFrom 12 = .ok (.getfield 7, 3) := by decide +kernel
theorem dX10_removeFrom_15 : decode cX10_removeFrom 15 = .ok (.iconst 0, 1) := by decide +kernel
theorem dX10_removeFrom_16 : decode cX10_removeFrom 16 = .ok (.iaload, 1) := by decide +kernel
theorem dX10_removeFrom_17 : decode cX10_removeFrom 17 = .ok (.imul, 1) := by decide +kernel
theorem dX10_removeFrom_18 : decode cX10_removeFrom 18 = .ok (.iadd, 1) := by decide +kernel
theorem dX10_removeFrom_19 : decode cX10_removeFrom 19 = .ok (.if_icmp .ge 24, 3) := by decide +kernel
theorem dX10_removeFrom_22 : decode cX10_removeFrom 22 = .ok (.aload_n 0, 1) := by decide +kernel
theorem dX10_removeFrom_23 : decode cX10_removeFrom 23 = .ok (.getfield 7, 3) := by decide +kernel
theorem dX10_removeFrom_26 : decode cX10_removeFrom 26 = .ok (.iload_n 3, 1) := by decide +kernel
theorem dX10_removeFrom_27 : decode cX10_removeFrom 27 = .ok (.aload_n 0, 1) := by decide +kernel
theorem dX10_removeFrom_28 : decode cX10_removeFrom 28 = .ok (.getfield 7, 3) := by decide +kernel
theorem dX10_removeFrom_31 : decode cX10_removeFrom 31 = .ok (.iload_n 3, 1) := by decide +kernel
theorem dX10_removeFrom_32 : decode cX10_removeFrom 32 = .ok (.bipush 6, 2) := by decide +kernel
theorem dX10_removeFrom_34 : decode cX10_removeFrom 34 = .ok (.iadd, 1) := by decide +kernel
theorem dX10_removeFrom_35 : decode cX10_removeFrom 35 = .ok (.iaload, 1) := by decide +kernel
theorem dX10_removeFrom_36 : decode cX10_removeFrom 36 = .ok (.iastore, 1) := by decide +kernel
theorem dX10_removeFrom_37 : decode cX10_removeFrom 37 = .ok (.iinc 3 1, 3) := by decide +kernel
theorem dX10_removeFrom_40 : decode cX10_removeFrom 40 = .ok (.goto (-33), 3) := by decide +kernel
theorem dX10_removeFrom_43 : decode cX10_removeFrom 43 = .ok (.return_, 1) := by decide +kernel
theorem dX10_removePart_0 : decode cX10_removePart 0 = .ok (.aload_n 0, 1) := by decide +kernel
theorem dX10_removePart_1 : decode cX10_removePart 1 = .ok (.aload_n 0, 1) := by decide +kernel
theorem dX10_removePart_2 : decode cX10_removePart 2 = .ok (.iload_n 1, 1) := by decide +kernel
theorem dX10_removePart_3 : decode cX10_removePart 3 = .ok (.invokevirtual 113, 3) := by decide +kernel
theorem dX10_removePart_6 : decode cX10_removePart 6 = .ok (.ifCond .eq 7, 3) := by decide +kernel
theorem dX10_removePart_9 : decode cX10_removePart 9 = .ok (.iconst 0, 1) := by decide +kernel
theorem dX10_removePart_10 : decode cX10_removePart 10 = .ok (.goto 4, 3) := by decide +kernel
theorem dX10_removePart_13 : decode cX10_removePart 13 = .ok (.iconst 1, 1) := by decide +kernel
theorem dX10_removePart_14 : decode cX10_removePart 14 = .ok (.putfield 39, 3) := by decide +kernel
theorem dX10_removePart_17 : decode cX10_removePart 17 = .ok (.aload_n 0, 1) := by decide +kernel
theorem dX10_removePart_18 : decode cX10_removePart 18 = .ok (.getfield 39, 3) := by decide +kernel
theorem dX10_removePart_21 : decode cX10_removePart 21 = .ok (.ifCond .le 5, 3) := by decide +kernel
theorem dX10_removePart_24 : decode cX10_removePart 24 = .ok (.iconst 0, 1) := by decide +kernel
theorem dX10_removePart_25 : decode cX10_removePart 25 = .ok (.ireturn, 1) := by decide +kernel
theorem dX10_removePart_26 : decode cX10_removePart 26 = .ok (.aload_n 0, 1) := by decide +kernel
theorem dX10_removePart_27 : decode cX10_removePart 27 = .ok (.invokevirtual 104, 3) := by decide +kernel
theorem dX10_removePart_30 : decode cX10_removePart 30 = .ok (.aload_n 0, 1) := by decide +kernel
theorem dX10_removePart_31 : decode cX10_removePart 31 = .ok (.invokevirtual 107, 3) := by decide +kernel
theorem dX10_removePart_34 : decode cX10_removePart 34 = .ok (.istore_n 2, 1) := by decide +kernel
theorem dX10_removePart_35 : decode cX10_removePart 35 = .ok (.aload_n 0, 1) := by decide +kernel
theorem dX10_removePart_36 : decode cX10_removePart 36 = .ok (.getfield 7, 3) := by decide +kernel
theorem dX10_removePart_39 : decode cX10_removePart 39 = .ok (.iconst 0, 1) := by decide +kernel
theorem dX10_removePart_40 : decode cX10_removePart 40 = .ok (.dup2, 1) := by decide +kernel
theorem dX10_removePart_41 : decode cX10_removePart 41 = .ok (.iaload, 1) := by decide +kernel
theorem dX10_removePart_42 : decode cX10_removePart 42 = .ok (.iconst 1, 1) := by decide +kernel
theorem dX10_removePart_43 : decode cX10_removePart 43 = .ok (.isub, 1) := by decide +kernel
theorem dX10_removePart_44 : decode cX10_removePart 44 = .ok (.iastore, 1) := by decide +kernel
theorem dX10_removePart_45 : decode cX10_removePart 45 = .ok (.aload_n 0, 1) := by decide +kernel
theorem dX10_removePart_46 : decode cX10_removePart 46 = .ok (.bipush 11, 2) := by decide +kernel
theorem dX10_removePart_48 : decode cX10_removePart 48 = .ok (.iload_n 1, 1) := by decide +kernel
theorem dX10_removePart_49 : decode cX10_removePart 49 = .ok (.invokevirtual 116, 3) := by decide +kernel
theorem dX10_removePart_52 : decode cX10_removePart 52 = .ok (.aload_n 0, 1) := by decide +kernel
theorem dX10_removePart_53 : decode cX10_removePart 53 = .ok (.bipush 47, 2) := by decide +kernel
theorem dX10_removePart_55 : decode cX10_removePart 55 = .ok (.iload_n 1, 1) := by decide +kernel
theorem dX10_removePart_56 : decode cX10_removePart 56 = .ok (.invokevirtual 116, 3) := by decide +kernel
theorem dX10_removePart_59 : decode cX10_removePart 59 = .ok (.aload_n 0, 1) := by decide +kernel
theorem dX10_removePart_60 : decode cX10_removePart 60 = .ok (.getfield 7, 3) := by decide +kernel
theorem dX10_removePart_63 : decode cX10_removePart 63 = .ok (.iconst 0, 1) := by decide +kernel
theorem dX10_removePart_64 : decode cX10_removePart 64 = .ok (.iaload, 1) := by decide +kernel
theorem dX10_removePart_65 : decode cX10_removePart 65 = .ok (.ireturn, 1) := by decide +kernel
theorem dX10_weigh_0 : decode cX10_weigh 0 = .ok (.aload_n 0, 1) := by decide +kernel
theorem dX10_weigh_1 : decode cX10_weigh 1 = .ok (.aload_n 0, 1) := by decide +kernel
theorem dX10_weigh_2 : decode cX10_weigh 2 = .ok (.iload_n 1, 1) := by decide +kernel
theorem dX10_weigh_3 : decode cX10_weigh 3 = .ok (.invokevirtual 113, 3) := by decide +kernel
theorem dX10_weigh_6 : decode cX10_weigh 6 = .ok (.ifCond .eq 10, 3) := by decide +kernel
theorem dX10_weigh_9 : decode cX10_weigh 9 = .ok (.iload_n 2, 1) := by decide +kernel
theorem dX10_weigh_10 : decode cX10_weigh 10 = .ok (.invokestatic 100, 3) := by decide +kernel
theorem dX10_weigh_13 : decode cX10_weigh 13 = .ok (.ifCond .ne 7, 3) := by decide +kernel
theorem dX10_weigh_16 : decode cX10_weigh 16 = .ok (.iconst 1, 1) := by decide +kernel
theorem dX10_weigh_17 : decode cX10_weigh 17 = .ok (.goto 18, 3) := by decide +kernel
theorem dX10_weigh_20 : decode cX10_weigh 20 = .ok (.iload_n 3, 1) := by decide +kernel
theorem dX10_weigh_21 : decode cX10_weigh 21 = .ok (.iconst 0, 1) := by decide +kernel
theorem dX10_weigh_22 : decode cX10_weigh 22 = .ok (.bipush 9, 2) := by decide +kernel
theorem dX10_weigh_24 : decode cX10_weigh 24 = .ok (.invokestatic 46, 3) := by decide +kernel
theorem dX10_weigh_27 : decode cX10_weigh 27 = .ok (.ifCond .ne 7, 3) := by decide +kernel
theorem dX10_weigh_30 : decode cX10_weigh 30 = .ok (.iconst 2, 1) := by decide +kernel
theorem dX10_weigh_31 : decode cX10_weigh 31 = .ok (.goto 4, 3) := by decide +kernel
theorem dX10_weigh_34 : decode cX10_weigh 34 = .ok (.iconst 0, 1) := by decide +kernel
theorem dX10_weigh_35 : decode cX10_weigh 35 = .ok (.putfield 39, 3) := by decide +kernel
theorem dX10_weigh_38 : decode cX10_weigh 38 = .ok (.aload_n 0, 1) := by decide +kernel
theorem dX10_weigh_39 : decode cX10_weigh 39 = .ok (.getfield 39, 3) := by decide +kernel
theorem dX10_weigh_42 : decode cX10_weigh 42 = .ok (.ifCond .ne 29, 3) := by decide +kernel
theorem dX10_weigh_45 : decode cX10_weigh 45 = .ok (.aload_n 0, 1) := by decide +kernel
theorem dX10_weigh_46 : decode cX10_weigh 46 = .ok (.aload_n 0, 1) := by decide +kernel
theorem dX10_weigh_47 : decode cX10_weigh 47 = .ok (.iload_n 1, 1) := by decide +kernel
theorem dX10_weigh_48 : decode cX10_weigh 48 = .ok (.invokevirtual 68, 3) := by decide +kernel
theorem dX10_weigh_51 : decode cX10_weigh 51 = .ok (.aload_n 0, 1) := by decide +kernel
theorem dX10_weigh_52 : decode cX10_weigh 52 = .ok (.iload_n 1, 1) := by decide +kernel
theorem dX10_weigh_53 : decode cX10_weigh 53 = .ok (.iload_n 2, 1) := by decide +kernel
theorem dX10_weigh_54 : decode cX10_weigh 54 = .ok (.invokevirtual 50, 3) := by decide +kernel
theorem dX10_weigh_57 : decode cX10_weigh 57 = .ok (.isub, 1) := by decide +kernel
theorem dX10_weigh_58 : decode cX10_weigh 58 = .ok (.iload_n 3, 1) := by decide +kernel
theorem dX10_weigh_59 : decode cX10_weigh 59 = .ok (.iadd, 1) := by decide +kernel
theorem dX10_weigh_60 : decode cX10_weigh 60 = .ok (.ifCond .ne 7, 3) := by decide +kernel
theorem dX10_weigh_63 : decode cX10_weigh 63 = .ok (.iconst 3, 1) := by decide +kernel
theorem dX10_weigh_64 : decode cX10_weigh 64 = .ok (.goto 4, 3) := by decide +kernel
theorem dX10_weigh_67 : decode cX10_weigh 67 = .ok (.iconst 0, 1) := by decide +kernel
theorem dX10_weigh_68 : decode cX10_weigh 68 = .ok (.putfield 39, 3) := by decide +kernel
theorem dX10_weigh_71 : decode cX10_weigh 71 = .ok (.aload_n 0, 1) := by decide +kernel
theorem dX10_weigh_72 : decode cX10_weigh 72 = .ok (.getfield 39, 3) := by decide +kernel
theorem dX10_weigh_75 : decode cX10_weigh 75 = .ok (.ifCond .le 5, 3) := by decide +kernel
theorem dX10_weigh_78 : decode cX10_weigh 78 = .ok (.iconst 0, 1) := by decide +kernel
theorem dX10_weigh_79 : decode cX10_weigh 79 = .ok (.ireturn, 1) := by decide +kernel
theorem dX10_weigh_80 : decode cX10_weigh 80 = .ok (.aload_n 0, 1) := by decide +kernel
theorem dX10_weigh_81 : decode cX10_weigh 81 = .ok (.invokevirtual 104, 3) := by decide +kernel
theorem dX10_weigh_84 : decode cX10_weigh 84 = .ok (.aload_n 0, 1) := by decide +kernel
theorem dX10_weigh_85 : decode cX10_weigh 85 = .ok (.invokevirtual 107, 3) := by decide +kernel
theorem dX10_weigh_88 : decode cX10_weigh 88 = .ok (.istore 4, 2) := by decide +kernel
theorem dX10_weigh_90 : decode cX10_weigh 90 = .ok (.aload_n 0, 1) := by decide +kernel
theorem dX10_weigh_91 : decode cX10_weigh 91 = .ok (.iload_n 1, 1) := by decide +kernel
theorem dX10_weigh_92 : decode cX10_weigh 92 = .ok (.iload_n 2, 1) := by decide +kernel
theorem dX10_weigh_93 : decode cX10_weigh 93 = .ok (.invokevirtual 50, 3) := by decide +kernel
theorem dX10_weigh_96 : decode cX10_weigh 96 = .ok (.istore 5, 2) := by decide +kernel
theorem dX10_weigh_98 : decode cX10_weigh 98 = .ok (.aload_n 0, 1) := by decide +kernel
theorem dX10_weigh_99 : decode cX10_weigh 99 = .ok (.getfield 7, 3) := by decide +kernel
theorem dX10_weigh_102 : decode cX10_weigh 102 = .ok (.bipush 11, 2) := by decide +kernel
theorem dX10_weigh_104 : decode cX10_weigh 104 = .ok (.bipush 6, 2) := by decide +kernel
theorem dX10_weigh_106 : decode cX10_weigh 106 = .ok (.iload_n 1, 1) := by decide +kernel
theorem dX10_weigh_107 : decode cX10_weigh 107 = .ok (.imul, 1) := by decide +kernel
theorem dX10_weigh_108 : decode cX10_weigh 108 = .ok (.iadd, 1) := by decide +kernel
theorem dX10_weigh_109 : decode cX10_weigh 109 = .ok (.iload_n 2, 1) := by decide +kernel
theorem dX10_weigh_110 : decode cX10_weigh 110 = .ok (.iadd, 1) := by decide +kernel
theorem dX10_weigh_111 : decode cX10_weigh 111 = .ok (.iload_n 3, 1) := by decide +kernel
theorem dX10_weigh_112 : decode cX10_weigh 112 = .ok (.iastore, 1) := by decide +kernel
theorem dX10_weigh_113 : decode cX10_weigh 113 = .ok (.aload_n 0, 1) := by decide +kernel
theorem dX10_weigh_114 : decode cX10_weigh 114 = .ok (.getfield 7, 3) := by decide +kernel
theorem dX10_weigh_117 : decode cX10_weigh 117 = .ok (.bipush 47, 2) := by decide +kernel
theorem dX10_weigh_119 : decode cX10_weigh 119 = .ok (.bipush 6, 2) := by decide +kernel
theorem dX10_weigh_121 : decode cX10_weigh 121 = .ok (.iload_n 1, 1) := by decide +kernel
theorem dX10_weigh_122 : decode cX10_weigh 122 = .ok (.imul, 1) := by decide +kernel
theorem dX10_weigh_123 : decode cX10_weigh 123 = .ok (.iadd, 1) := by decide +kernel
theorem dX10_weigh_124 : decode cX10_weigh 124 = .ok (.iload_n 2, 1) := by decide +kernel
theorem dX10_weigh_125 : decode cX10_weigh 125 = .ok (.iadd, 1) := by decide +kernel
theorem dX10_weigh_126 : decode cX10_weigh 126 = .ok (.iload 5, 2) := by decide +kernel
theorem dX10_weigh_128 : decode cX10_weigh 128 = .ok (.ifCond .eq 7, 3) := by decide +kernel
theorem dX10_weigh_131 : decode cX10_weigh 131 = .ok (.iload_n 3, 1) := by decide +kernel
theorem dX10_weigh_132 : decode cX10_weigh 132 = .ok (.ifCond .ne 7, 3) := by decide +kernel
theorem dX10_weigh_135 : decode cX10_weigh 135 = .ok (.iload_n 3, 1) := by decide +kernel
theorem dX10_weigh_136 : decode cX10_weigh 136 = .ok (.goto 9, 3) := by decide +kernel
theorem dX10_weigh_139 : decode cX10_weigh 139 = .ok (.aload_n 0, 1) := by decide +kernel
theorem dX10_weigh_140 : decode cX10_weigh 140 = .ok (.iload_n 1, 1) := by decide +kernel
theorem dX10_weigh_141 : decode cX10_weigh 141 = .ok (.iload_n 2, 1) := by decide +kernel
theorem dX10_weigh_142 : decode cX10_weigh 142 = .ok (.invokevirtual 54, 3) := by decide +kernel
theorem dX10_weigh_145 : decode cX10_weigh 145 = .ok (.iastore, 1) := by decide +kernel
theorem dX10_weigh_146 : decode cX10_weigh 146 = .ok (.iload 5, 2) := by decide +kernel
theorem dX10_weigh_148 : decode cX10_weigh 148 = .ok (.ireturn, 1) := by decide +kernel
theorem dX10_tilt_0 : decode cX10_tilt 0 = .ok (.aload_n 0, 1) := by decide +kernel
theorem dX10_tilt_1 : decode cX10_tilt 1 = .ok (.aload_n 0, 1) := by decide +kernel
theorem dX10_tilt_2 : decode cX10_tilt 2 = .ok (.iload_n 1, 1) := by decide +kernel
theorem dX10_tilt_3 : decode cX10_tilt 3 = .ok (.invokevirtual 113, 3) := by decide +kernel
theorem dX10_tilt_6 : decode cX10_tilt 6 = .ok (.ifCond .eq 10, 3) := by decide +kernel
theorem dX10_tilt_9 : decode cX10_tilt 9 = .ok (.iload_n 2, 1) := by decide +kernel
theorem dX10_tilt_10 : decode cX10_tilt 10 = .ok (.invokestatic 100, 3) := by decide +kernel
theorem dX10_tilt_13 : decode cX10_tilt 13 = .ok (.ifCond .ne 7, 3) := by decide +kernel
theorem dX10_tilt_16 : decode cX10_tilt 16 = .ok (.iconst 1, 1) := by decide +kernel
theorem dX10_tilt_17 : decode cX10_tilt 17 = .ok (.goto 31, 3) := by decide +kernel
theorem dX10_tilt_20 : decode cX10_tilt 20 = .ok (.iload_n 3, 1) := by decide +kernel
theorem dX10_tilt_21 : decode cX10_tilt 21 = .ok (.iconst 1, 1) := by decide +kernel
theorem dX10_tilt_22 : decode cX10_tilt 22 = .ok (.bipush 99, 2) := by decide +kernel
theorem dX10_tilt_24 : decode cX10_tilt 24 = .ok (.invokestatic 46, 3) := by decide +kernel
theorem dX10_tilt_27 : decode cX10_tilt 27 = .ok (.ifCond .ne 7, 3) := by decide +kernel
theorem dX10_tilt_30 : decode cX10_tilt 30 = .ok (.iconst 2, 1) := by decide +kernel
theorem dX10_tilt_31 : decode cX10_tilt 31 = .ok (.goto 17, 3) := by decide +kernel
theorem dX10_tilt_34 : decode cX10_tilt 34 = .ok (.aload_n 0, 1) := by decide +kernel
theorem dX10_tilt_35 : decode cX10_tilt 35 = .ok (.iload_n 1, 1) := by decide +kernel
theorem dX10_tilt_36 : decode cX10_tilt 36 = .ok (.iload_n 2, 1) := by decide +kernel
theorem dX10_tilt_37 : decode cX10_tilt 37 = .ok (.invokevirtual 50, 3) := by decide +kernel
theorem dX10_tilt_40 : decode cX10_tilt 40 = .ok (.ifCond .ne 7, 3) := by decide +kernel
theorem dX10_tilt_43 : decode cX10_tilt 43 = .ok (.iconst 3, 1) := by decide +kernel
theorem dX10_tilt_44 : decode cX10_tilt 44 = .ok (.goto 4, 3) := by decide +kernel
theorem dX10_tilt_47 : decode cX10_tilt 47 = .ok (.iconst 0, 1) := by decide +kernel
theorem dX10_tilt_48 : decode cX10_tilt 48 = .ok (.putfield 39, 3) := by decide +kernel
theorem dX10_tilt_51 : decode cX10_tilt 51 = .ok (.aload_n 0, 1) := by decide +kernel
theorem dX10_tilt_52 : decode cX10_tilt 52 = .ok (.getfield 39, 3) := by decide +kernel
theorem dX10_tilt_55 : decode cX10_tilt 55 = .ok (.ifCond .le 5, 3) := by decide +kernel
theorem dX10_tilt_58 : decode cX10_tilt 58 = .ok (.iconst 0, 1) := by decide +kernel
theorem dX10_tilt_59 : decode cX10_tilt 59 = .ok (.ireturn, 1) := by decide +kernel
theorem dX10_tilt_60 : decode cX10_tilt 60 = .ok (.aload_n 0, 1) := by decide +kernel
theorem dX10_tilt_61 : decode cX10_tilt 61 = .ok (.invokevirtual 104, 3) := by decide +kernel
theorem dX10_tilt_64 : decode cX10_tilt 64 = .ok (.aload_n 0, 1) := by decide +kernel
theorem dX10_tilt_65 : decode cX10_tilt 65 = .ok (.invokevirtual 107, 3) := by decide +kernel
theorem dX10_tilt_68 : decode cX10_tilt 68 = .ok (.istore 4, 2) := by decide +kernel
theorem dX10_tilt_70 : decode cX10_tilt 70 = .ok (.aload_n 0, 1) := by decide +kernel
theorem dX10_tilt_71 : decode cX10_tilt 71 = .ok (.iload_n 1, 1) := by decide +kernel
theorem dX10_tilt_72 : decode cX10_tilt 72 = .ok (.iload_n 2, 1) := by decide +kernel
theorem dX10_tilt_73 : decode cX10_tilt 73 = .ok (.invokevirtual 54, 3) := by decide +kernel
theorem dX10_tilt_76 : decode cX10_tilt 76 = .ok (.istore 5, 2) := by decide +kernel
theorem dX10_tilt_78 : decode cX10_tilt 78 = .ok (.aload_n 0, 1) := by decide +kernel
theorem dX10_tilt_79 : decode cX10_tilt 79 = .ok (.getfield 7, 3) := by decide +kernel
theorem dX10_tilt_82 : decode cX10_tilt 82 = .ok (.bipush 47, 2) := by decide +kernel
theorem dX10_tilt_84 : decode cX10_tilt 84 = .ok (.bipush 6, 2) := by decide +kernel
theorem dX10_tilt_86 : decode cX10_tilt 86 = .ok (.iload_n 1, 1) := by decide +kernel
theorem dX10_tilt_87 : decode cX10_tilt 87 = .ok (.imul, 1) := by decide +kernel
theorem dX10_tilt_88 : decode cX10_tilt 88 = .ok (.iadd, 1) := by decide +kernel
theorem dX10_tilt_89 : decode cX10_tilt 89 = .ok (.iload_n 2, 1) := by decide +kernel
theorem dX10_tilt_90 : decode cX10_tilt 90 = .ok (.iadd, 1) := by decide +kernel
theorem dX10_tilt_91 : decode cX10_tilt 91 = .ok (.iload_n 3, 1) := by decide +kernel
theorem dX10_tilt_92 : decode cX10_tilt 92 = .ok (.iastore, 1) := by decide +kernel
theorem dX10_tilt_93 : decode cX10_tilt 93 = .ok (.iload 5, 2) := by decide +kernel
theorem dX10_tilt_95 : decode cX10_tilt 95 = .ok (.ireturn, 1) := by decide +kernel
theorem dX10_tiltAll_0 : decode cX10_tiltAll 0 = .ok (.aload_n 0, 1) := by decide +kernel
theorem dX10_tiltAll_1 : decode cX10_tiltAll 1 = .ok (.iload_n 1, 1) := by decide +kernel
theorem dX10_tiltAll_2 : decode cX10_tiltAll 2 = .ok (.iconst 0, 1) := by decide +kernel
theorem dX10_tiltAll_3 : decode cX10_tiltAll 3 = .ok (.bipush 9, 2) := by decide +kernel
theorem dX10_tiltAll_5 : decode cX10_tiltAll 5 = .ok (.invokestatic 46, 3) := by decide +kernel
theorem dX10_tiltAll_8 : decode cX10_tiltAll 8 = .ok (.ifCond .eq 7, 3) := by decide +kernel
theorem dX10_tiltAll_11 : decode cX10_tiltAll 11 = .ok (.iconst 0, 1) := by decide +kernel
theorem dX10_tiltAll_12 : decode cX10_tiltAll 12 = .ok (.goto 4, 3) := by decide +kernel
theorem dX10_tiltAll_15 : decode cX10_tiltAll 15 = .ok (.iconst 1, 1) := by decide +kernel
theorem dX10_tiltAll_16 : decode cX10_tiltAll 16 = .ok (.putfield 39, 3) := by decide +kernel
theorem dX10_tiltAll_19 : decode cX10_tiltAll 19 = .ok (.aload_n 0, 1) := by decide +kernel
theorem dX10_tiltAll_20 : decode cX10_tiltAll 20 = .ok (.getfield 39, 3) := by decide +kernel
theorem dX10_tiltAll_23 : decode cX10_tiltAll 23 = .ok (.ifCond .le 5, 3) := by decide +kernel
theorem dX10_tiltAll_26 : decode cX10_tiltAll 26 = .ok (.iconst 0, 1) := by decide +kernel
theorem dX10_tiltAll_27 : decode cX10_tiltAll 27 = .ok (.ireturn, 1) := by decide +kernel
theorem dX10_tiltAll_28 : decode cX10_tiltAll 28 = .ok (.aload_n 0, 1) := by decide +kernel
theorem dX10_tiltAll_29 : decode cX10_tiltAll 29 = .ok (.invokevirtual 104, 3) := by decide +kernel
theorem dX10_tiltAll_32 : decode cX10_tiltAll 32 = .ok (.aload_n 0, 1) := by decide +kernel
theorem dX10_tiltAll_33 : decode cX10_tiltAll 33 = .ok (.invokevirtual 107, 3) := by decide +kernel
theorem dX10_tiltAll_36 : decode cX10_tiltAll 36 = .ok (.istore_n 2, 1) := by decide +kernel
theorem dX10_tiltAll_37 : decode cX10_tiltAll 37 = .ok (.iconst 0, 1) := by decide +kernel
theorem dX10_tiltAll_38 : decode cX10_tiltAll 38 = .ok (.istore_n 3, 1) := by decide +kernel
theorem dX10_tiltAll_39 : decode cX10_tiltAll 39 = .ok (.iconst 0, 1) := by decide +kernel
theorem dX10_tiltAll_40 : decode cX10_tiltAll 40 = .ok (.istore 4, 2) := by decide +kernel
theorem dX10_tiltAll_42 : decode cX10_tiltAll 42 = .ok (.iload 4, 2) := by decide +kernel
theorem dX10_tiltAll_44 : decode cX10_tiltAll 44 = .ok (.aload_n 0, 1) := by decide +kernel
theorem dX10_tiltAll_45 : decode cX10_tiltAll 45 = .ok (.getfield 7, 3) := by decide +kernel
theorem dX10_tiltAll_48 : decode cX10_tiltAll 48 = .ok (.iconst 0, 1) := by decide +kernel
theorem dX10_tiltAll_49 : decode cX10_tiltAll 49 = .ok (.iaload, 1) := by decide +kernel
theorem dX10_tiltAll_50 : decode cX10_tiltAll 50 = .ok (.if_icmp .ge 81, 3) := by decide +kernel
theorem dX10_tiltAll_53 : decode cX10_tiltAll 53 = .ok (.iconst 0, 1) := by decide +kernel
theorem dX10_tiltAll_54 : decode cX10_tiltAll 54 = .ok (.istore 5, 2) := by decide +kernel
theorem dX10_tiltAll_56 : decode cX10_tiltAll 56 = .ok (.iload 5, 2) := by decide +kernel
theorem dX10_tiltAll_58 : decode cX10_tiltAll 58 = .ok (.bipush 6, 2) := by decide +kernel
theorem dX10_tiltAll_60 : decode cX10_tiltAll 60 = .ok (.if_icmp .ge 56, 3) := by decide +kernel
theorem dX10_tiltAll_63 : decode cX10_tiltAll 63 = .ok (.aload_n 0, 1) := by decide +kernel
theorem dX10_tiltAll_64 : decode cX10_tiltAll 64 = .ok (.iload 4, 2) := by decide +kernel
theorem dX10_tiltAll_66 : decode cX10_tiltAll 66 = .ok (.iload 5, 2) := by decide +kernel
theorem dX10_tiltAll_68 : decode cX10_tiltAll 68 = .ok (.invokevirtual 50, 3) := by decide +kernel
theorem dX10_tiltAll_71 : decode cX10_tiltAll 71 = .ok (.iconst 1, 1) := by decide +kernel
theorem dX10_tiltAll_72 : decode cX10_tiltAll 72 = .ok (.iload 5, 2) := by decide +kernel
theorem dX10_tiltAll_74 : decode cX10_tiltAll 74 = .ok (.iload_n 1, 1) := by decide +kernel
theorem dX10_tiltAll_75 : decode cX10_tiltAll 75 = .ok (.imul, 1) := by decide +kernel
theorem dX10_tiltAll_76 : decode cX10_tiltAll 76 = .ok (.iadd, 1) := by decide +kernel
theorem dX10_tiltAll_77 : decode cX10_tiltAll 77 = .ok (.imul, 1) := by decide +kernel
theorem dX10_tiltAll_78 : decode cX10_tiltAll 78 = .ok (.istore 6, 2) := by decide +kernel
theorem dX10_tiltAll_80 : decode cX10_tiltAll 80 = .ok (.aload_n 0, 1) := by decide +kernel
theorem dX10_tiltAll_81 : decode cX10_tiltAll 81 = .ok (.getfield 7, 3) := by decide +kernel
theorem dX10_tiltAll_84 : decode cX10_tiltAll 84 = .ok (.bipush 47, 2) := by decide +kernel
theorem dX10_tiltAll_86 : decode cX10_tiltAll 86 = .ok (.bipush 6, 2) := by decide +kernel
theorem dX10_tiltAll_88 : decode cX10_tiltAll 88 = .ok (.iload 4, 2) := by decide +kernel
theorem dX10_tiltAll_90 : decode cX10_tiltAll 90 = .ok (.imul, 1) := by decide +kernel
theorem dX10_tiltAll_91 : decode cX10_tiltAll 91 = .ok (.iadd, 1) := by decide +kernel
theorem dX10_tiltAll_92 : decode cX10_tiltAll 92 = .ok (.iload 5, 2) := by decide +kernel
theorem dX10_tiltAll_94 : decode cX10_tiltAll 94 = .ok (.iadd, 1) := by decide +kernel
theorem dX10_tiltAll_95 : decode cX10_tiltAll 95 = .ok (.iload 6, 2) := by decide +kernel
theorem dX10_tiltAll_97 : decode cX10_tiltAll 97 = .ok (.bipush 99, 2) := by decide +kernel
theorem dX10_tiltAll_99 : decode cX10_tiltAll 99 = .ok (.if_icmp .le 8, 3) := by decide +kernel
theorem dX10_tiltAll_102 : decode cX10_tiltAll 102 = .ok (.bipush 99, 2) := by decide +kernel
theorem dX10_tiltAll_104 : decode cX10_tiltAll 104 = .ok (.goto 5, 3) := by decide +kernel
theorem dX10_tiltAll_107 : decode cX10_tiltAll 107 = .ok (.iload 6, 2) := by decide +kernel
theorem dX10_tiltAll_109 : decode cX10_tiltAll 109 = .ok (.iastore, 1) := by decide +kernel
theorem dX10_tiltAll_110 : decode cX10_tiltAll 110 = .ok (.iinc 5 1, 3) := by decide +kernel
theorem dX10_tiltAll_113 : decode cX10_tiltAll 113 = .ok (.goto (-57), 3) := by decide +kernel
theorem dX10_tiltAll_116 : decode cX10_tiltAll 116 = .ok (.iload_n 3, 1) := by decide +kernel
theorem dX10_tiltAll_117 : decode cX10_tiltAll 117 = .ok (.aload_n 0, 1) := by decide +kernel
theorem dX10_tiltAll_118 : decode cX10_tiltAll 118 = .ok (.iload 4, 2) := by decide +kernel
theorem dX10_tiltAll_120 : decode cX10_tiltAll 120 = .ok (.invokevirtual 64, 3) := by decide +kernel
theorem dX10_tiltAll_123 : decode cX10_tiltAll 123 = .ok (.iadd, 1) := by decide +kernel
theorem dX10_tiltAll_124 : decode cX10_tiltAll 124 = .ok (.istore_n 3, 1) := by decide +kernel
theorem dX10_tiltAll_125 : decode cX10_tiltAll 125 = .ok (.iinc 4 1, 3) := by decide +kernel
theorem dX10_tiltAll_128 : decode cX10_tiltAll 128 = .ok (.goto (-86), 3) := by decide +kernel
theorem dX10_tiltAll_131 : decode cX10_tiltAll 131 = .ok (.iload_n 3, 1) := by decide +kernel
theorem dX10_tiltAll_132 : decode cX10_tiltAll 132 = .ok (.ireturn, 1) := by decide +kernel
theorem dX10_isLimit_0 : decode cX10_isLimit 0 = .ok (.iload_n 0, 1) := by decide +kernel
theorem dX10_isLimit_1 : decode cX10_isLimit 1 = .ok (.iconst 0, 1) := by decide +kernel
theorem dX10_isLimit_2 : decode cX10_isLimit 2 = .ok (.bipush 99, 2) := by decide +kernel
theorem dX10_isLimit_4 : decode cX10_isLimit 4 = .ok (.invokestatic 46, 3) := by decide +kernel
theorem dX10_isLimit_7 : decode cX10_isLimit 7 = .ok (.ireturn, 1) := by decide +kernel
theorem dX10_limit_0 : decode cX10_limit 0 = .ok (.aload_n 0, 1) := by decide +kernel
theorem dX10_limit_1 : decode cX10_limit 1 = .ok (.iload_n 1, 1) := by decide +kernel
theorem dX10_limit_2 : decode cX10_limit 2 = .ok (.invokestatic 120, 3) := by decide +kernel
theorem dX10_limit_5 : decode cX10_limit 5 = .ok (.ifCond .eq 7, 3) := by decide +kernel
theorem dX10_limit_8 : decode cX10_limit 8 = .ok (.iconst 0, 1) := by decide +kernel
theorem dX10_limit_9 : decode cX10_limit 9 = .ok (.goto 4, 3) := by decide +kernel
theorem dX10_limit_12 : decode cX10_limit 12 = .ok (.iconst 1, 1) := by decide +kernel
theorem dX10_limit_13 : decode cX10_limit 13 = .ok (.putfield 39, 3) := by decide +kernel
theorem dX10_limit_16 : decode cX10_limit 16 = .ok (.aload_n 0, 1) := by decide +kernel
theorem dX10_limit_17 : decode cX10_limit 17 = .ok (.getfield 39, 3) := by decide +kernel
theorem dX10_limit_20 : decode cX10_limit 20 = .ok (.ifCond .le 5, 3) := by decide +kernel
theorem dX10_limit_23 : decode cX10_limit 23 = .ok (.iconst 0, 1) := by decide +kernel
theorem dX10_limit_24 : decode cX10_limit 24 = .ok (.ireturn, 1) := by decide +kernel
theorem dX10_limit_25 : decode cX10_limit 25 = .ok (.aload_n 0, 1) := by decide +kernel
theorem dX10_limit_26 : decode cX10_limit 26 = .ok (.invokevirtual 104, 3) := by decide +kernel
theorem dX10_limit_29 : decode cX10_limit 29 = .ok (.aload_n 0, 1) := by decide +kernel
theorem dX10_limit_30 : decode cX10_limit 30 = .ok (.invokevirtual 107, 3) := by decide +kernel
theorem dX10_limit_33 : decode cX10_limit 33 = .ok (.istore_n 2, 1) := by decide +kernel
theorem dX10_limit_34 : decode cX10_limit 34 = .ok (.aload_n 0, 1) := by decide +kernel
theorem dX10_limit_35 : decode cX10_limit 35 = .ok (.getfield 7, 3) := by decide +kernel
theorem dX10_limit_38 : decode cX10_limit 38 = .ok (.iconst 1, 1) := by decide +kernel
theorem dX10_limit_39 : decode cX10_limit 39 = .ok (.iaload, 1) := by decide +kernel
theorem dX10_limit_40 : decode cX10_limit 40 = .ok (.istore_n 3, 1) := by decide +kernel
theorem dX10_limit_41 : decode cX10_limit 41 = .ok (.aload_n 0, 1) := by decide +kernel
theorem dX10_limit_42 : decode cX10_limit 42 = .ok (.getfield 7, 3) := by decide +kernel
theorem dX10_limit_45 : decode cX10_limit 45 = .ok (.iconst 1, 1) := by decide +kernel
theorem dX10_limit_46 : decode cX10_limit 46 = .ok (.iload_n 1, 1) := by decide +kernel
theorem dX10_limit_47 : decode cX10_limit 47 = .ok (.iastore, 1) := by decide +kernel
theorem dX10_limit_48 : decode cX10_limit 48 = .ok (.iload_n 3, 1) := by decide +kernel
theorem dX10_limit_49 : decode cX10_limit 49 = .ok (.ireturn, 1) := by decide +kernel
theorem dX10_seed_0 : decode cX10_seed 0 = .ok (.aload_n 0, 1) := by decide +kernel
theorem dX10_seed_1 : decode cX10_seed 1 = .ok (.iload_n 1, 1) := by decide +kernel
theorem dX10_seed_2 : decode cX10_seed 2 = .ok (.ifCond .ge 7, 3) := by decide +kernel
theorem dX10_seed_5 : decode cX10_seed 5 = .ok (.iconst 1, 1) := by decide +kernel
theorem dX10_seed_6 : decode cX10_seed 6 = .ok (.goto 4, 3) := by decide +kernel
theorem dX10_seed_9 : decode cX10_seed 9 = .ok (.iconst 0, 1) := by decide +kernel
theorem dX10_seed_10 : decode cX10_seed 10 = .ok (.putfield 39, 3) := by decide +kernel
theorem dX10_seed_13 : decode cX10_seed 13 = .ok (.aload_n 0, 1) := by decide +kernel
theorem dX10_seed_14 : decode cX10_seed 14 = .ok (.getfield 39, 3) := by decide +kernel
theorem dX10_seed_17 : decode cX10_seed 17 = .ok (.ifCond .le 5, 3) := by decide +kernel
theorem dX10_seed_20 : decode cX10_seed 20 = .ok (.iconst 0, 1) := by decide +kernel
theorem dX10_seed_21 : decode cX10_seed 21 = .ok (.ireturn, 1) := by decide +kernel
theorem dX10_seed_22 : decode cX10_seed 22 = .ok (.aload_n 0, 1) := by decide +kernel
theorem dX10_seed_23 : decode cX10_seed 23 = .ok (.invokevirtual 104, 3) := by decide +kernel
theorem dX10_seed_26 : decode cX10_seed 26 = .ok (.aload_n 0, 1) := by decide +kernel
theorem dX10_seed_27 : decode cX10_seed 27 = .ok (.getfield 7, 3) := by decide +kernel
theorem dX10_seed_30 : decode cX10_seed 30 = .ok (.iconst 2, 1) := by decide +kernel
theorem dX10_seed_31 : decode cX10_seed 31 = .ok (.iaload, 1) := by decide +kernel
theorem dX10_seed_32 : decode cX10_seed 32 = .ok (.istore_n 2, 1) := by decide +kernel
theorem dX10_seed_33 : decode cX10_seed 33 = .ok (.aload_n 0, 1) := by decide +kernel
theorem dX10_seed_34 : decode cX10_seed 34 = .ok (.getfield 7, 3) := by decide +kernel
theorem dX10_seed_37 : decode cX10_seed 37 = .ok (.iconst 2, 1) := by decide +kernel
theorem dX10_seed_38 : decode cX10_seed 38 = .ok (.iload_n 1, 1) := by decide +kernel
theorem dX10_seed_39 : decode cX10_seed 39 = .ok (.iastore, 1) := by decide +kernel
theorem dX10_seed_40 : decode cX10_seed 40 = .ok (.iload_n 2, 1) := by decide +kernel
theorem dX10_seed_41 : decode cX10_seed 41 = .ok (.ireturn, 1) := by decide +kernel
theorem dX10_draw_0 : decode cX10_draw 0 = .ok (.aload_n 0, 1) := by decide +kernel
theorem dX10_draw_1 : decode cX10_draw 1 = .ok (.iload_n 1, 1) := by decide +kernel
theorem dX10_draw_2 : decode cX10_draw 2 = .ok (.iconst 1, 1) := by decide +kernel
theorem dX10_draw_3 : decode cX10_draw 3 = .ok (.bipush 64, 2) := by decide +kernel
theorem dX10_draw_5 : decode cX10_draw 5 = .ok (.invokestatic 46, 3) := by decide +kernel
theorem dX10_draw_8 : decode cX10_draw 8 = .ok (.ifCond .ne 7, 3) := by decide +kernel
theorem dX10_draw_11 : decode cX10_draw 11 = .ok (.iconst 1, 1) := by decide +kernel
theorem dX10_draw_12 : decode cX10_draw 12 = .ok (.goto 22, 3) := by decide +kernel
theorem dX10_draw_15 : decode cX10_draw 15 = .ok (.aload_n 0, 1) := by decide +kernel
theorem dX10_draw_16 : decode cX10_draw 16 = .ok (.getfield 7, 3) := by decide +kernel
theorem dX10_draw_19 : decode cX10_draw 19 = .ok (.iconst 3, 1) := by decide +kernel
theorem dX10_draw_20 : decode cX10_draw 20 = .ok (.iaload, 1) := by decide +kernel
theorem dX10_draw_21 : decode cX10_draw 21 = .ok (.iload_n 1, 1) := by decide +kernel
theorem dX10_draw_22 : decode cX10_draw 22 = .ok (.iadd, 1) := by decide +kernel
theorem dX10_draw_23 : decode cX10_draw 23 = .ok (.sipush 9999, 3) := by decide +kernel
theorem dX10_draw_26 : decode cX10_draw 26 = .ok (.if_icmp .le 7, 3) := by decide +kernel
theorem dX10_draw_29 : decode cX10_draw 29 = .ok (.iconst 2, 1) := by decide +kernel
theorem dX10_draw_30 : decode cX10_draw 30 = .ok (.goto 4, 3) := by decide +kernel
theorem dX10_draw_33 : decode cX10_draw 33 = .ok (.iconst 0, 1) := by decide +kernel
theorem dX10_draw_34 : decode cX10_draw 34 = .ok (.putfield 39, 3) := by decide +kernel
theorem dX10_draw_37 : decode cX10_draw 37 = .ok (.aload_n 0, 1) := by decide +kernel
theorem dX10_draw_38 : decode cX10_draw 38 = .ok (.getfield 39, 3) := by decide +kernel
theorem dX10_draw_41 : decode cX10_draw 41 = .ok (.ifCond .le 5, 3) := by decide +kernel
theorem dX10_draw_44 : decode cX10_draw 44 = .ok (.iconst 0, 1) := by decide +kernel
theorem dX10_draw_45 : decode cX10_draw 45 = .ok (.ireturn, 1) := by decide +kernel
theorem dX10_draw_46 : decode cX10_draw 46 = .ok (.aload_n 0, 1) := by decide +kernel
theorem dX10_draw_47 : decode cX10_draw 47 = .ok (.invokevirtual 104, 3) := by decide +kernel
theorem dX10_draw_50 : decode cX10_draw 50 = .ok (.iconst 0, 1) := by decide +kernel
theorem dX10_draw_51 : decode cX10_draw 51 = .ok (.istore_n 2, 1) := by decide +kernel
theorem dX10_draw_52 : decode cX10_draw 52 = .ok (.iconst 0, 1) := by decide +kernel
theorem dX10_draw_53 : decode cX10_draw 53 = .ok (.istore_n 3, 1) := by decide +kernel
theorem dX10_draw_54 : decode cX10_draw 54 = .ok (.iload_n 3, 1) := by decide +kernel
theorem dX10_draw_55 : decode cX10_draw 55 = .ok (.iload_n 1, 1) := by decide +kernel
theorem dX10_draw_56 : decode cX10_draw 56 = .ok (.if_icmp .ge 20, 3) := by decide +kernel
theorem dX10_draw_59 : decode cX10_draw 59 = .ok (.aload_n 0, 1) := by decide +kernel
theorem dX10_draw_60 : decode cX10_draw 60 = .ok (.invokevirtual 123, 3) := by decide +kernel
theorem dX10_draw_63 : decode cX10_draw 63 = .ok (.istore 4, 2) := by decide +kernel
theorem dX10_draw_65 : decode cX10_draw 65 = .ok (.iload_n 2, 1) := by decide +kernel
theorem dX10_draw_66 : decode cX10_draw 66 = .ok (.iload 4, 2) := by decide +kernel
theorem dX10_draw_68 : decode cX10_draw 68 = .ok (.iadd, 1) := by decide +kernel
theorem dX10_draw_69 : decode cX10_draw 69 = .ok (.istore_n 2, 1) := by decide +kernel
theorem dX10_draw_70 : decode cX10_draw 70 = .ok (.iinc 3 1, 3) := by decide +kernel
theorem dX10_draw_73 : decode cX10_draw 73 = .ok (.goto (-19), 3) := by decide +kernel
theorem dX10_draw_76 : decode cX10_draw 76 = .ok (.iload_n 2, 1) := by decide +kernel
theorem dX10_draw_77 : decode cX10_draw 77 = .ok (.ireturn, 1) := by decide +kernel
theorem dX10_forget_0 : decode cX10_forget 0 = .ok (.aload_n 0, 1) := by decide +kernel
theorem dX10_forget_1 : decode cX10_forget 1 = .ok (.iconst 0, 1) := by decide +kernel
theorem dX10_forget_2 : decode cX10_forget 2 = .ok (.putfield 39, 3) := by decide +kernel
theorem dX10_forget_5 : decode cX10_forget 5 = .ok (.aload_n 0, 1) := by decide +kernel
theorem dX10_forget_6 : decode cX10_forget 6 = .ok (.invokevirtual 104, 3) := by decide +kernel
theorem dX10_forget_9 : decode cX10_forget 9 = .ok (.aload_n 0, 1) := by decide +kernel
theorem dX10_forget_10 : decode cX10_forget 10 = .ok (.invokevirtual 107, 3) := by decide +kernel
theorem dX10_forget_13 : decode cX10_forget 13 = .ok (.ireturn, 1) := by decide +kernel
theorem dX10_append_0 : decode cX10_append 0 = .ok (.aload_n 0, 1) := by decide +kernel
theorem dX10_append_1 : decode cX10_append 1 = .ok (.iload_n 1, 1) := by decide +kernel
theorem dX10_append_2 : decode cX10_append 2 = .ok (.bipush 33, 2) := by decide +kernel
theorem dX10_append_4 : decode cX10_append 4 = .ok (.bipush 126, 2) := by decide +kernel
theorem dX10_append_6 : decode cX10_append 6 = .ok (.invokestatic 46, 3) := by decide +kernel
theorem dX10_append_9 : decode cX10_append 9 = .ok (.ifCond .ne 7, 3) := by decide +kernel
theorem dX10_append_12 : decode cX10_append 12 = .ok (.iconst 1, 1) := by decide +kernel
theorem dX10_append_13 : decode cX10_append 13 = .ok (.goto 17, 3) := by decide +kernel
theorem dX10_append_16 : decode cX10_append 16 = .ok (.aload_n 0, 1) := by decide +kernel
theorem dX10_append_17 : decode cX10_append 17 = .ok (.getfield 126, 3) := by decide +kernel
theorem dX10_append_20 : decode cX10_append 20 = .ok (.bipush 60, 2) := by decide +kernel
theorem dX10_append_22 : decode cX10_append 22 = .ok (.if_icmp .ne 7, 3) := by decide +kernel
theorem dX10_append_25 : decode cX10_append 25 = .ok (.iconst 2, 1) := by decide +kernel
theorem dX10_append_26 : decode cX10_append 26 = .ok (.goto 4, 3) := by decide +kernel
theorem dX10_append_29 : decode cX10_append 29 = .ok (.iconst 0, 1) := by decide +kernel
theorem dX10_append_30 : decode cX10_append 30 = .ok (.putfield 39, 3) := by decide +kernel
theorem dX10_append_33 : decode cX10_append 33 = .ok (.aload_n 0, 1) := by decide +kernel
theorem dX10_append_34 : decode cX10_append 34 = .ok (.getfield 39, 3) := by decide +kernel
theorem dX10_append_37 : decode cX10_append 37 = .ok (.ifCond .le 5, 3) := by decide +kernel
theorem dX10_append_40 : decode cX10_append 40 = .ok (.iconst 0, 1) := by decide +kernel
theorem dX10_append_41 : decode cX10_append 41 = .ok (.ireturn, 1) := by decide +kernel
theorem dX10_append_42 : decode cX10_append 42 = .ok (.aload_n 0, 1) := by decide +kernel
theorem dX10_append_43 : decode cX10_append 43 = .ok (.getfield 23, 3) := by decide +kernel
theorem dX10_append_46 : decode cX10_append 46 = .ok (.aload_n 0, 1) := by decide +kernel
theorem dX10_append_47 : decode cX10_append 47 = .ok (.getfield 126, 3) := by decide +kernel
theorem dX10_append_50 : decode cX10_append 50 = .ok (.iload_n 1, 1) := by decide +kernel
theorem dX10_append_51 : decode cX10_append 51 = .ok (.iastore, 1) := by decide +kernel
theorem dX10_append_52 : decode cX10_append 52 = .ok (.aload_n 0, 1) := by decide +kernel
theorem dX10_append_53 : decode cX10_append 53 = .ok (.dup, 1) := by decide +kernel
theorem dX10_append_54 : decode cX10_append 54 = .ok (.getfield 126, 3) := by decide +kernel
theorem dX10_append_57 : decode cX10_append 57 = .ok (.iconst 1, 1) := by decide +kernel
theorem dX10_append_58 : decode cX10_append 58 = .ok (.iadd, 1) := by decide +kernel
theorem dX10_append_59 : decode cX10_append 59 = .ok (.putfield 126, 3) := by decide +kernel
theorem dX10_append_62 : decode cX10_append 62 = .ok (.aload_n 0, 1) := by decide +kernel
theorem dX10_append_63 : decode cX10_append 63 = .ok (.getfield 126, 3) := by decide +kernel
theorem dX10_append_66 : decode cX10_append 66 = .ok (.ireturn, 1) := by decide +kernel
theorem dX10_clearBuffer_0 : decode cX10_clearBuffer 0 = .ok (.aload_n 0, 1) := by decide +kernel
theorem dX10_clearBuffer_1 : decode cX10_clearBuffer 1 = .ok (.iconst 0, 1) := by decide +kernel
theorem dX10_clearBuffer_2 : decode cX10_clearBuffer 2 = .ok (.putfield 39, 3) := by decide +kernel
theorem dX10_clearBuffer_5 : decode cX10_clearBuffer 5 = .ok (.aload_n 0, 1) := by decide +kernel
theorem dX10_clearBuffer_6 : decode cX10_clearBuffer 6 = .ok (.getfield 126, 3) := by decide +kernel
theorem dX10_clearBuffer_9 : decode cX10_clearBuffer 9 = .ok (.istore_n 1, 1) := by decide +kernel
theorem dX10_clearBuffer_10 : decode cX10_clearBuffer 10 = .ok (.aload_n 0, 1) := by decide +kernel
theorem dX10_clearBuffer_11 : decode cX10_clearBuffer 11 = .ok (.iconst 0, 1) := by decide +kernel
theorem dX10_clearBuffer_12 : decode cX10_clearBuffer 12 = .ok (.putfield 126, 3) := by decide +kernel
theorem dX10_clearBuffer_15 : decode cX10_clearBuffer 15 = .ok (.iload_n 1, 1) := by decide +kernel
theorem dX10_clearBuffer_16 : decode cX10_clearBuffer 16 = .ok (.ireturn, 1) := by decide +kernel
theorem dX10_beginPart_0 : decode cX10_beginPart 0 = .ok (.iconst 0, 1) := by decide +kernel
theorem dX10_beginPart_1 : decode cX10_beginPart 1 = .ok (.istore_n 1, 1) := by decide +kernel
theorem dX10_beginPart_2 : decode cX10_beginPart 2 = .ok (.iload_n 1, 1) := by decide +kernel
theorem dX10_beginPart_3 : decode cX10_beginPart 3 = .ok (.bipush 6, 2) := by decide +kernel
theorem dX10_beginPart_5 : decode cX10_beginPart 5 = .ok (.if_icmp .ge 24, 3) := by decide +kernel
theorem dX10_beginPart_8 : decode cX10_beginPart 8 = .ok (.aload_n 0, 1) := by decide +kernel
theorem dX10_beginPart_9 : decode cX10_beginPart 9 = .ok (.getfield 33, 3) := by decide +kernel
theorem dX10_beginPart_12 : decode cX10_beginPart 12 = .ok (.bipush 6, 2) := by decide +kernel
theorem dX10_beginPart_14 : decode cX10_beginPart 14 = .ok (.aload_n 0, 1) := by decide +kernel
theorem dX10_beginPart_15 : decode cX10_beginPart 15 = .ok (.getfield 129, 3) := by decide +kernel
theorem dX10_beginPart_18 : decode cX10_beginPart 18 = .ok (.imul, 1) := by decide +kernel
theorem dX10_beginPart_19 : decode cX10_beginPart 19 = .ok (.iload_n 1, 1) := by decide +kernel
theorem dX10_beginPart_20 : decode cX10_beginPart 20 = .ok (.iadd, 1) := by decide +kernel
theorem dX10_beginPart_21 : decode cX10_beginPart 21 = .ok (.iconst 0, 1) := by decide +kernel
theorem dX10_beginPart_22 : decode cX10_beginPart 22 = .ok (.iastore, 1) := by decide +kernel
theorem dX10_beginPart_23 : decode cX10_beginPart 23 = .ok (.iinc 1 1, 3) := by decide +kernel
theorem dX10_beginPart_26 : decode cX10_beginPart 26 = .ok (.goto (-24), 3) := by decide +kernel
theorem dX10_beginPart_29 : decode cX10_beginPart 29 = .ok (.aload_n 0, 1) := by decide +kernel
theorem dX10_beginPart_30 : decode cX10_beginPart 30 = .ok (.iconst 0, 1) := by decide +kernel
theorem dX10_beginPart_31 : decode cX10_beginPart 31 = .ok (.putfield 132, 3) := by decide +kernel
theorem dX10_beginPart_34 : decode cX10_beginPart 34 = .ok (.aload_n 0, 1) := by decide +kernel
theorem dX10_beginPart_35 : decode cX10_beginPart 35 = .ok (.iconst 0, 1) := by decide +kernel
theorem dX10_beginPart_36 : decode cX10_beginPart 36 = .ok (.putfield 135, 3) := by decide +kernel
theorem dX10_beginPart_39 : decode cX10_beginPart 39 = .ok (.return_, 1) := by decide +kernel
theorem dX10_takes_0 : decode cX10_takes 0 = .ok (.iload_n 1, 1) := by decide +kernel
theorem dX10_takes_1 : decode cX10_takes 1 = .ok (.bipush 59, 2) := by decide +kernel
theorem dX10_takes_3 : decode cX10_takes 3 = .ok (.if_icmp .ne 26, 3) := by decide +kernel
theorem dX10_takes_6 : decode cX10_takes 6 = .ok (.aload_n 0, 1) := by decide +kernel
theorem dX10_takes_7 : decode cX10_takes 7 = .ok (.getfield 135, 3) := by decide +kernel
theorem dX10_takes_10 : decode cX10_takes 10 = .ok (.ifCond .le 19, 3) := by decide +kernel
theorem dX10_takes_13 : decode cX10_takes 13 = .ok (.aload_n 0, 1) := by decide +kernel
theorem dX10_takes_14 : decode cX10_takes 14 = .ok (.dup, 1) := by decide +kernel
theorem dX10_takes_15 : decode cX10_takes 15 = .ok (.getfield 129, 3) := by decide +kernel
theorem dX10_takes_18 : decode cX10_takes 18 = .ok (.iconst 1, 1) := by decide +kernel
theorem dX10_takes_19 : decode cX10_takes 19 = .ok (.iadd, 1) := by decide +kernel
theorem dX10_takes_20 : decode cX10_takes 20 = .ok (.putfield 129, 3) := by decide +kernel
theorem dX10_takes_23 : decode cX10_takes 23 = .ok (.aload_n 0, 1) := by decide +kernel
theorem dX10_takes_24 : decode cX10_takes 24 = .ok (.invokevirtual 138, 3) := by decide +kernel
theorem dX10_takes_27 : decode cX10_takes 27 = .ok (.iconst 1, 1) := by decide +kernel
theorem dX10_takes_28 : decode cX10_takes 28 = .ok (.ireturn, 1) := by decide +kernel
theorem dX10_takes_29 : decode cX10_takes 29 = .ok (.iload_n 1, 1) := by decide +kernel
theorem dX10_takes_30 : decode cX10_takes 30 = .ok (.bipush 48, 2) := by decide +kernel
theorem dX10_takes_32 : decode cX10_takes 32 = .ok (.isub, 1) := by decide +kernel
theorem dX10_takes_33 : decode cX10_takes 33 = .ok (.istore_n 2, 1) := by decide +kernel
theorem dX10_takes_34 : decode cX10_takes 34 = .ok (.aload_n 0, 1) := by decide +kernel
theorem dX10_takes_35 : decode cX10_takes 35 = .ok (.getfield 132, 3) := by decide +kernel
theorem dX10_takes_38 : decode cX10_takes 38 = .ok (.iconst 5, 1) := by decide +kernel
theorem dX10_takes_39 : decode cX10_takes 39 = .ok (.if_icmp .ne 7, 3) := by decide +kernel
theorem dX10_takes_42 : decode cX10_takes 42 = .ok (.iconst 1, 1) := by decide +kernel
theorem dX10_takes_43 : decode cX10_takes 43 = .ok (.goto 4, 3) := by decide +kernel
theorem dX10_takes_46 : decode cX10_takes 46 = .ok (.iconst 0, 1) := by decide +kernel
theorem dX10_takes_47 : decode cX10_takes 47 = .ok (.istore_n 3, 1) := by decide +kernel
theorem dX10_takes_48 : decode cX10_takes 48 = .ok (.iload_n 2, 1) := by decide +kernel
theorem dX10_takes_49 : decode cX10_takes 49 = .ok (.iconst 0, 1) := by decide +kernel
theorem dX10_takes_50 : decode cX10_takes 50 = .ok (.bipush 9, 2) := by decide +kernel
theorem dX10_takes_52 : decode cX10_takes 52 = .ok (.invokestatic 46, 3) := by decide +kernel
theorem dX10_takes_55 : decode cX10_takes 55 = .ok (.ifCond .eq 25, 3) := by decide +kernel
theorem dX10_takes_58 : decode cX10_takes 58 = .ok (.aload_n 0, 1) := by decide +kernel
theorem dX10_takes_59 : decode cX10_takes 59 = .ok (.getfield 132, 3) := by decide +kernel
theorem dX10_takes_62 : decode cX10_takes 62 = .ok (.bipush 6, 2) := by decide +kernel
theorem dX10_takes_64 : decode cX10_takes 64 = .ok (.if_icmp .eq 16, 3) := by decide +kernel
theorem dX10_takes_67 : decode cX10_takes 67 = .ok (.iload_n 3, 1) := by decide +kernel
theorem dX10_takes_68 : decode cX10_takes 68 = .ok (.ifCond .eq 14, 3) := by decide +kernel
theorem dX10_takes_71 : decode cX10_takes 71 = .ok (.aload_n 0, 1) := by decide +kernel
theorem dX10_takes_72 : decode cX10_takes 72 = .ok (.getfield 135, 3) := by decide +kernel
theorem dX10_takes_75 : decode cX10_takes 75 = .ok (.iload_n 2, 1) := by decide +kernel
theorem dX10_takes_76 : decode cX10_takes 76 = .ok (.iadd, 1) := by decide +kernel
theorem dX10_takes_77 : decode cX10_takes 77 = .ok (.ifCond .ne 5, 3) := by decide +kernel
theorem dX10_takes_80 : decode cX10_takes 80 = .ok (.iconst 0, 1) := by decide +kernel
theorem dX10_takes_81 : decode cX10_takes 81 = .ok (.ireturn, 1) := by decide +kernel
theorem dX10_takes_82 : decode cX10_takes 82 = .ok (.aload_n 0, 1) := by decide +kernel
theorem dX10_takes_83 : decode cX10_takes 83 = .ok (.getfield 33, 3) := by decide +kernel
theorem dX10_takes_86 : decode cX10_takes 86 = .ok (.bipush 6, 2) := by decide +kernel
theorem dX10_takes_88 : decode cX10_takes 88 = .ok (.aload_n 0, 1) := by decide +kernel
theorem dX10_takes_89 : decode cX10_takes 89 = .ok (.getfield 129, 3) := by decide +kernel
theorem dX10_takes_92 : decode cX10_takes 92 = .ok (.imul, 1) := by decide +kernel
theorem dX10_takes_93 : decode cX10_takes 93 = .ok (.aload_n 0, 1) := by decide +kernel
theorem dX10_takes_94 : decode cX10_takes 94 = .ok (.getfield 132, 3) := by decide +kernel
theorem dX10_takes_97 : decode cX10_takes 97 = .ok (.iadd, 1) := by decide +kernel
theorem dX10_takes_98 : decode cX10_takes 98 = .ok (.iload_n 2, 1) := by decide +kernel
theorem dX10_takes_99 : decode cX10_takes 99 = .ok (.iastore, 1) := by decide +kernel
theorem dX10_takes_100 : decode cX10_takes 100 = .ok (.aload_n 0, 1) := by decide +kernel
theorem dX10_takes_101 : decode cX10_takes 101 = .ok (.dup, 1) := by decide +kernel
theorem dX10_takes_102 : decode cX10_takes 102 = .ok (.getfield 132, 3) := by decide +kernel
theorem dX10_takes_105 : decode cX10_takes 105 = .ok (.iconst 1, 1) := by decide +kernel
theorem dX10_takes_106 : decode cX10_takes 106 = .ok (.iadd, 1) := by decide +kernel
theorem dX10_takes_107 : decode cX10_takes 107 = .ok (.putfield 132, 3) := by decide +kernel
theorem dX10_takes_110 : decode cX10_takes 110 = .ok (.aload_n 0, 1) := by decide +kernel
theorem dX10_takes_111 : decode cX10_takes 111 = .ok (.dup, 1) := by decide +kernel
theorem dX10_takes_112 : decode cX10_takes 112 = .ok (.getfield 135, 3) := by decide +kernel
theorem dX10_takes_115 : decode cX10_takes 115 = .ok (.iload_n 2, 1) := by decide +kernel
theorem dX10_takes_116 : decode cX10_takes 116 = .ok (.iadd, 1) := by decide +kernel
theorem dX10_takes_117 : decode cX10_takes 117 = .ok (.putfield 135, 3) := by decide +kernel
theorem dX10_takes_120 : decode cX10_takes 120 = .ok (.iconst 1, 1) := by decide +kernel
theorem dX10_takes_121 : decode cX10_takes 121 = .ok (.ireturn, 1) := by decide +kernel
theorem dX10_rightUpTo_0 : decode cX10_rightUpTo 0 = .ok (.aload_n 0, 1) := by decide +kernel
theorem dX10_rightUpTo_1 : decode cX10_rightUpTo 1 = .ok (.iconst 0, 1) := by decide +kernel
theorem dX10_rightUpTo_2 : decode cX10_rightUpTo 2 = .ok (.putfield 129, 3) := by decide +kernel
theorem dX10_rightUpTo_5 : decode cX10_rightUpTo 5 = .ok (.aload_n 0, 1) := by decide +kernel
theorem dX10_rightUpTo_6 : decode cX10_rightUpTo 6 = .ok (.invokevirtual 138, 3) := by decide +kernel
theorem dX10_rightUpTo_9 : decode cX10_rightUpTo 9 = .ok (.iconst 0, 1) := by decide +kernel
theorem dX10_rightUpTo_10 : decode cX10_rightUpTo 10 = .ok (.istore_n 1, 1) := by decide +kernel
theorem dX10_rightUpTo_11 : decode cX10_rightUpTo 11 = .ok (.iload_n 1, 1) := by decide +kernel
theorem dX10_rightUpTo_12 : decode cX10_rightUpTo 12 = .ok (.aload_n 0, 1) := by decide +kernel
theorem dX10_rightUpTo_13 : decode cX10_rightUpTo 13 = .ok (.getfield 126, 3) := by decide +kernel
theorem dX10_rightUpTo_16 : decode cX10_rightUpTo 16 = .ok (.if_icmp .ge 22, 3) := by decide +kernel
theorem dX10_rightUpTo_19 : decode cX10_rightUpTo 19 = .ok (.aload_n 0, 1) := by decide +kernel
theorem dX10_rightUpTo_20 : decode cX10_rightUpTo 20 = .ok (.aload_n 0, 1) := by decide +kernel
theorem dX10_rightUpTo_21 : decode cX10_rightUpTo 21 = .ok (.getfield 23, 3) := by decide +kernel
theorem dX10_rightUpTo_24 : decode cX10_rightUpTo 24 = .ok (.iload_n 1, 1) := by decide +kernel
theorem dX10_rightUpTo_25 : decode cX10_rightUpTo 25 = .ok (.iaload, 1) := by decide +kernel
theorem dX10_rightUpTo_26 : decode cX10_rightUpTo 26 = .ok (.invokevirtual 141, 3) := by decide +kernel
theorem dX10_rightUpTo_29 : decode cX10_rightUpTo 29 = .ok (.ifCond .eq 9, 3) := by decide +kernel
theorem dX10_rightUpTo_32 : decode cX10_rightUpTo 32 = .ok (.iinc 1 1, 3) := by decide +kernel
theorem dX10_rightUpTo_35 : decode cX10_rightUpTo 35 = .ok (.goto (-24), 3) := by decide +kernel
theorem dX10_rightUpTo_38 : decode cX10_rightUpTo 38 = .ok (.iload_n 1, 1) := by decide +kernel
theorem dX10_rightUpTo_39 : decode cX10_rightUpTo 39 = .ok (.ireturn, 1) := by decide +kernel
theorem dX10_firstError_0 : decode cX10_firstError 0 = .ok (.aload_n 0, 1) := by decide +kernel
theorem dX10_firstError_1 : decode cX10_firstError 1 = .ok (.iconst 0, 1) := by decide +kernel
theorem dX10_firstError_2 : decode cX10_firstError 2 = .ok (.putfield 39, 3) := by decide +kernel
theorem dX10_firstError_5 : decode cX10_firstError 5 = .ok (.aload_n 0, 1) := by decide +kernel
theorem dX10_firstError_6 : decode cX10_firstError 6 = .ok (.invokevirtual 144, 3) := by decide +kernel
theorem dX10_firstError_9 : decode cX10_firstError 9 = .ok (.ireturn, 1) := by decide +kernel
theorem dX10_addAll_0 : decode cX10_addAll 0 = .ok (.aload_n 0, 1) := by decide +kernel
theorem dX10_addAll_1 : decode cX10_addAll 1 = .ok (.invokevirtual 144, 3) := by decide +kernel
theorem dX10_addAll_4 : decode cX10_addAll 4 = .ok (.aload_n 0, 1) := by decide +kernel
theorem dX10_addAll_5 : decode cX10_addAll 5 = .ok (.getfield 126, 3) := by decide +kernel
theorem dX10_addAll_8 : decode cX10_addAll 8 = .ok (.if_icmp .ne 14, 3) := by decide +kernel
theorem dX10_addAll_11 : decode cX10_addAll 11 = .ok (.aload_n 0, 1) := by decide +kernel
theorem dX10_addAll_12 : decode cX10_addAll 12 = .ok (.getfield 135, 3) := by decide +kernel
theorem dX10_addAll_15 : decode cX10_addAll 15 = .ok (.ifCond .le 7, 3) := by decide +kernel
theorem dX10_addAll_18 : decode cX10_addAll 18 = .ok (.iconst 1, 1) := by decide +kernel
theorem dX10_addAll_19 : decode cX10_addAll 19 = .ok (.goto 4, 3) := by decide +kernel
theorem dX10_addAll_22 : decode cX10_addAll 22 = .ok (.iconst 0, 1) := by decide +kernel
theorem dX10_addAll_23 : decode cX10_addAll 23 = .ok (.istore_n 1, 1) := by decide +kernel
theorem dX10_addAll_24 : decode cX10_addAll 24 = .ok (.aload_n 0, 1) := by decide +kernel
theorem dX10_addAll_25 : decode cX10_addAll 25 = .ok (.iload_n 1, 1) := by decide +kernel
theorem dX10_addAll_26 : decode cX10_addAll 26 = .ok (.ifCond .ne 7, 3) := by decide +kernel
theorem dX10_addAll_29 : decode cX10_addAll 29 = .ok (.iconst 1, 1) := by decide +kernel
theorem dX10_addAll_30 : decode cX10_addAll 30 = .ok (.goto 26, 3) := by decide +kernel
theorem dX10_addAll_33 : decode cX10_addAll 33 = .ok (.aload_n 0, 1) := by decide +kernel
theorem dX10_addAll_34 : decode cX10_addAll 34 = .ok (.getfield 7, 3) := by decide +kernel
theorem dX10_addAll_37 : decode cX10_addAll 37 = .ok (.iconst 0, 1) := by decide +kernel
theorem dX10_addAll_38 : decode cX10_addAll 38 = .ok (.iaload, 1) := by decide +kernel
theorem dX10_addAll_39 : decode cX10_addAll 39 = .ok (.aload_n 0, 1) := by decide +kernel
theorem dX10_addAll_40 : decode cX10_addAll 40 = .ok (.getfield 129, 3) := by decide +kernel
theorem dX10_addAll_43 : decode cX10_addAll 43 = .ok (.iadd, 1) := by decide +kernel
theorem dX10_addAll_44 : decode cX10_addAll 44 = .ok (.iconst 1, 1) := by decide +kernel
theorem dX10_addAll_45 : decode cX10_addAll 45 = .ok (.iadd, 1) := by decide +kernel
theorem dX10_addAll_46 : decode cX10_addAll 46 = .ok (.bipush 6, 2) := by decide +kernel
theorem dX10_addAll_48 : decode cX10_addAll 48 = .ok (.if_icmp .le 7, 3) := by decide +kernel
theorem dX10_addAll_51 : decode cX10_addAll 51 = .ok (.iconst 2, 1) := by decide +kernel
theorem dX10_addAll_52 : decode cX10_addAll 52 = .ok (.goto 4, 3) := by decide +kernel
theorem dX10_addAll_55 : decode cX10_addAll 55 = .ok (.iconst 0, 1) := by decide +kernel
theorem dX10_addAll_56 : decode cX10_addAll 56 = .ok (.putfield 39, 3) := by decide +kernel
theorem dX10_addAll_59 : decode cX10_addAll 59 = .ok (.aload_n 0, 1) := by decide +kernel
theorem dX10_addAll_60 : decode cX10_addAll 60 = .ok (.getfield 39, 3) := by decide +kernel
theorem dX10_addAll_63 : decode cX10_addAll 63 = .ok (.ifCond .le 5, 3) := by decide +kernel
theorem dX10_addAll_66 : decode cX10_addAll 66 = .ok (.iconst 0, 1) := by decide +kernel
theorem dX10_addAll_67 : decode cX10_addAll 67 = .ok (.ireturn, 1) := by decide +kernel
theorem dX10_addAll_68 : decode cX10_addAll 68 = .ok (.aload_n 0, 1) := by decide +kernel
theorem dX10_addAll_69 : decode cX10_addAll 69 = .ok (.invokevirtual 104, 3) := by decide +kernel
theorem dX10_addAll_72 : decode cX10_addAll 72 = .ok (.aload_n 0, 1) := by decide +kernel
theorem dX10_addAll_73 : decode cX10_addAll 73 = .ok (.invokevirtual 107, 3) := by decide +kernel
theorem dX10_addAll_76 : decode cX10_addAll 76 = .ok (.istore_n 2, 1) := by decide +kernel
theorem dX10_addAll_77 : decode cX10_addAll 77 = .ok (.aload_n 0, 1) := by decide +kernel
theorem dX10_addAll_78 : decode cX10_addAll 78 = .ok (.iconst 0, 1) := by decide +kernel
theorem dX10_addAll_79 : decode cX10_addAll 79 = .ok (.putfield 126, 3) := by decide +kernel
theorem dX10_addAll_82 : decode cX10_addAll 82 = .ok (.iconst 0, 1) := by decide +kernel
theorem dX10_addAll_83 : decode cX10_addAll 83 = .ok (.istore_n 3, 1) := by decide +kernel
theorem dX10_addAll_84 : decode cX10_addAll 84 = .ok (.iload_n 3, 1) := by decide +kernel
theorem dX10_addAll_85 : decode cX10_addAll 85 = .ok (.aload_n 0, 1) := by decide +kernel
theorem dX10_addAll_86 : decode cX10_addAll 86 = .ok (.getfield 129, 3) := by decide +kernel
theorem dX10_addAll_89 : decode cX10_addAll 89 = .ok (.if_icmp .gt 77, 3) := by decide +kernel
theorem dX10_addAll_92 : decode cX10_addAll 92 = .ok (.iconst 0, 1) := by decide +kernel
theorem dX10_addAll_93 : decode cX10_addAll 93 = .ok (.istore 4, 2) := by decide +kernel
theorem dX10_addAll_95 : decode cX10_addAll 95 = .ok (.iload 4, 2) := by decide +kernel
theorem dX10_addAll_97 : decode cX10_addAll 97 = .ok (.bipush 6, 2) := by decide +kernel
theorem dX10_addAll_99 : decode cX10_addAll 99 = .ok (.if_icmp .ge 41, 3) := by decide +kernel
theorem dX10_addAll_102 : decode cX10_addAll 102 = .ok (.aload_n 0, 1) := by decide +kernel
theorem dX10_addAll_103 : decode cX10_addAll 103 = .ok (.getfield 7, 3) := by decide +kernel
theorem dX10_addAll_106 : decode cX10_addAll 106 = .ok (.bipush 11, 2) := by decide +kernel
theorem dX10_addAll_108 : decode cX10_addAll 108 = .ok (.bipush 6, 2) := by decide +kernel
theorem dX10_addAll_110 : decode cX10_addAll 110 = .ok (.aload_n 0, 1) := by decide +kernel
theorem dX10_addAll_111 : decode cX10_addAll 111 = .ok (.getfield 7, 3) := by decide +kernel
theorem dX10_addAll_114 : decode cX10_addAll 114 = .ok (.iconst 0, 1) := by decide +kernel
theorem dX10_addAll_115 : decode cX10_addAll 115 = .ok (.iaload, 1) := by decide +kernel
theorem dX10_addAll_116 : decode cX10_addAll 116 = .ok (.imul, 1) := by decide +kernel
theorem dX10_addAll_117 : decode cX10_addAll 117 = .ok (.iadd, 1) := by decide +kernel
theorem dX10_addAll_118 : decode cX10_addAll 118 = .ok (.iload 4, 2) := by decide +kernel
theorem dX10_addAll_120 : decode cX10_addAll 120 = .ok (.iadd, 1) := by decide +kernel
theorem dX10_addAll_121 : decode cX10_addAll 121 = .ok (.aload_n 0, 1) := by decide +kernel
theorem dX10_addAll_122 : decode cX10_addAll 122 = .ok (.getfield 33, 3) := by decide +kernel
theorem dX10_addAll_125 : decode cX10_addAll 125 = .ok (.bipush 6, 2) := by decide +kernel
theorem dX10_addAll_127 : decode cX10_addAll 127 = .ok (.iload_n 3, 1) := by decide +kernel
theorem dX10_addAll_128 : decode cX10_addAll 128 = .ok (.imul, 1) := by decide +kernel
theorem dX10_addAll_129 : decode cX10_addAll 129 = .ok (.iload 4, 2) := by decide +kernel
theorem dX10_addAll_131 : decode cX10_addAll 131 = .ok (.iadd, 1) := by decide +kernel
theorem dX10_addAll_132 : decode cX10_addAll 132 = .ok (.iaload, 1) := by decide +kernel
theorem dX10_addAll_133 : decode cX10_addAll 133 = .ok (.iastore, 1) := by decide +kernel
theorem dX10_addAll_134 : decode cX10_addAll 134 = .ok (.iinc 4 1, 3) := by decide +kernel
theorem dX10_addAll_137 : decode cX10_addAll 137 = .ok (.goto (-42), 3) := by decide +kernel
theorem dX10_addAll_140 : decode cX10_addAll 140 = .ok (.aload_n 0, 1) := by decide +kernel
theorem dX10_addAll_141 : decode cX10_addAll 141 = .ok (.aload_n 0, 1) := by decide +kernel
theorem dX10_addAll_142 : decode cX10_addAll 142 = .ok (.getfield 7, 3) := by decide +kernel
theorem dX10_addAll_145 : decode cX10_addAll 145 = .ok (.iconst 0, 1) := by decide +kernel
theorem dX10_addAll_146 : decode cX10_addAll 146 = .ok (.iaload, 1) := by decide +kernel
theorem dX10_addAll_147 : decode cX10_addAll 147 = .ok (.invokevirtual 110, 3) := by decide +kernel
theorem dX10_addAll_150 : decode cX10_addAll 150 = .ok (.aload_n 0, 1) := by decide +kernel
theorem dX10_addAll_151 : decode cX10_addAll 151 = .ok (.getfield 7, 3) := by decide +kernel
theorem dX10_addAll_154 : decode cX10_addAll 154 = .ok (.iconst 0, 1) := by decide +kernel
theorem dX10_addAll_155 : decode cX10_addAll 155 = .ok (.dup2, 1) := by decide +kernel
theorem dX10_addAll_156 : decode cX10_addAll 156 = .ok (.iaload, 1) := by decide +kernel
theorem dX10_addAll_157 : decode cX10_addAll 157 = .ok (.iconst 1, 1) := by decide +kernel
theorem dX10_addAll_158 : decode cX10_addAll 158 = .ok (.iadd, 1) := by decide +kernel
theorem dX10_addAll_159 : decode cX10_addAll 159 = .ok (.iastore, 1) := by decide +kernel
theorem dX10_addAll_160 : decode cX10_addAll 160 = .ok (.iinc 3 1, 3) := by decide +kernel
theorem dX10_addAll_163 : decode cX10_addAll 163 = .ok (.goto (-79), 3) := by decide +kernel
theorem dX10_addAll_166 : decode cX10_addAll 166 = .ok (.aload_n 0, 1) := by decide +kernel
theorem dX10_addAll_167 : decode cX10_addAll 167 = .ok (.getfield 7, 3) := by decide +kernel
theorem dX10_addAll_170 : decode cX10_addAll 170 = .ok (.iconst 0, 1) := by decide +kernel
theorem dX10_addAll_171 : decode cX10_addAll 171 = .ok (.iaload, 1) := by decide +kernel
theorem dX10_addAll_172 : decode cX10_addAll 172 = .ok (.ireturn, 1) := by decide +kernel
theorem dX10_undo_0 : decode cX10_undo 0 = .ok (.aload_n 0, 1) := by decide +kernel
theorem dX10_undo_1 : decode cX10_undo 1 = .ok (.aload_n 0, 1) := by decide +kernel
theorem dX10_undo_2 : decode cX10_undo 2 = .ok (.getfield 43, 3) := by decide +kernel
theorem dX10_undo_5 : decode cX10_undo 5 = .ok (.ifCond .le 7, 3) := by decide +kernel
theorem dX10_undo_8 : decode cX10_undo 8 = .ok (.iconst 0, 1) := by decide +kernel
theorem dX10_undo_9 : decode cX10_undo 9 = .ok (.goto 4, 3) := by decide +kernel
theorem dX10_undo_12 : decode cX10_undo 12 = .ok (.iconst 1, 1) := by decide +kernel
theorem dX10_undo_13 : decode cX10_undo 13 = .ok (.putfield 39, 3) := by decide +kernel
theorem dX10_undo_16 : decode cX10_undo 16 = .ok (.aload_n 0, 1) := by decide +kernel
theorem dX10_undo_17 : decode cX10_undo 17 = .ok (.getfield 39, 3) := by decide +kernel
theorem dX10_undo_20 : decode cX10_undo 20 = .ok (.ifCond .le 5, 3) := by decide +kernel
theorem dX10_undo_23 : decode cX10_undo 23 = .ok (.iconst 0, 1) := by decide +kernel
theorem dX10_undo_24 : decode cX10_undo 24 = .ok (.ireturn, 1) := by decide +kernel
theorem dX10_undo_25 : decode cX10_undo 25 = .ok (.aload_n 0, 1) := by decide +kernel
theorem dX10_undo_26 : decode cX10_undo 26 = .ok (.dup, 1) := by decide +kernel
theorem dX10_undo_27 : decode cX10_undo 27 = .ok (.getfield 43, 3) := by decide +kernel
theorem dX10_undo_30 : decode cX10_undo 30 = .ok (.iconst 1, 1) := by decide +kernel
theorem dX10_undo_31 : decode cX10_undo 31 = .ok (.isub, 1) := by decide +kernel
theorem dX10_undo_32 : decode cX10_undo 32 = .ok (.putfield 43, 3) := by decide +kernel
theorem dX10_undo_35 : decode cX10_undo 35 = .ok (.iconst 0, 1) := by decide +kernel
theorem dX10_undo_36 : decode cX10_undo 36 = .ok (.istore_n 1, 1) := by decide +kernel
theorem dX10_undo_37 : decode cX10_undo 37 = .ok (.iload_n 1, 1) := by decide +kernel
theorem dX10_undo_38 : decode cX10_undo 38 = .ok (.bipush 83, 2) := by decide +kernel
theorem dX10_undo_40 : decode cX10_undo 40 = .ok (.if_icmp .ge 29, 3) := by decide +kernel
theorem dX10_undo_43 : decode cX10_undo 43 = .ok (.aload_n 0, 1) := by decide +kernel
theorem dX10_undo_44 : decode cX10_undo 44 = .ok (.getfield 7, 3) := by decide +kernel
theorem dX10_undo_47 : decode cX10_undo 47 = .ok (.iload_n 1, 1) := by decide +kernel
theorem dX10_undo_48 : decode cX10_undo 48 = .ok (.aload_n 0, 1) := by decide +kernel
theorem dX10_undo_49 : decode cX10_undo 49 = .ok (.getfield 17, 3) := by decide +kernel
theorem dX10_undo_52 : decode cX10_undo 52 = .ok (.bipush 83, 2) := by decide +kernel
theorem dX10_undo_54 : decode cX10_undo 54 = .ok (.aload_n 0, 1) := by decide +kernel
theorem dX10_undo_55 : decode cX10_undo 55 = .ok (.getfield 43, 3) := by decide +kernel
theorem dX10_undo_58 : decode cX10_undo 58 = .ok (.imul, 1) := by decide +kernel
theorem dX10_undo_59 : decode cX10_undo 59 = .ok (.iload_n 1, 1) := by decide +kernel
theorem dX10_undo_60 : decode cX10_undo 60 = .ok (.iadd, 1) := by decide +kernel
theorem dX10_undo_61 : decode cX10_undo 61 = .ok (.iaload, 1) := by decide +kernel
theorem dX10_undo_62 : decode cX10_undo 62 = .ok (.iastore, 1) := by decide +kernel
theorem dX10_undo_63 : decode cX10_undo 63 = .ok (.iinc 1 1, 3) := by decide +kernel
theorem dX10_undo_66 : decode cX10_undo 66 = .ok (.goto (-29), 3) := by decide +kernel
