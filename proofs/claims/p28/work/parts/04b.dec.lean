theorem dX5_effectiveNumber_22 : decode cX5_effectiveNumber 22 = .ok (.ddiv, 1) := by decide +kernel
theorem dX5_effectiveNumber_23 : decode cX5_effectiveNumber 23 = .ok (.goto 4, 3) := by decide +kernel
theorem dX5_effectiveNumber_26 : decode cX5_effectiveNumber 26 = .ok (.dconst 0, 1) := by decide +kernel
theorem dX5_effectiveNumber_27 : decode cX5_effectiveNumber 27 = .ok (.dreturn, 1) := by decide +kernel
theorem dX5_copyFrom_0 : decode cX5_copyFrom 0 = .ok (.iconst 0, 1) := by decide +kernel
theorem dX5_copyFrom_1 : decode cX5_copyFrom 1 = .ok (.istore_n 2, 1) := by decide +kernel
theorem dX5_copyFrom_2 : decode cX5_copyFrom 2 = .ok (.iload_n 2, 1) := by decide +kernel
theorem dX5_copyFrom_3 : decode cX5_copyFrom 3 = .ok (.aload_n 0, 1) := by decide +kernel
theorem dX5_copyFrom_4 : decode cX5_copyFrom 4 = .ok (.getfield 9, 3) := by decide +kernel
theorem dX5_copyFrom_7 : decode cX5_copyFrom 7 = .ok (.arraylength, 1) := by decide +kernel
theorem dX5_copyFrom_8 : decode cX5_copyFrom 8 = .ok (.if_icmp .ge 34, 3) := by decide +kernel
theorem dX5_copyFrom_11 : decode cX5_copyFrom 11 = .ok (.aload_n 0, 1) := by decide +kernel
theorem dX5_copyFrom_12 : decode cX5_copyFrom 12 = .ok (.getfield 9, 3) := by decide +kernel
theorem dX5_copyFrom_15 : decode cX5_copyFrom 15 = .ok (.iload_n 2, 1) := by decide +kernel
theorem dX5_copyFrom_16 : decode cX5_copyFrom 16 = .ok (.iload_n 2, 1) := by decide +kernel
theorem dX5_copyFrom_17 : decode cX5_copyFrom 17 = .ok (.aload_n 1, 1) := by decide +kernel
theorem dX5_copyFrom_18 : decode cX5_copyFrom 18 = .ok (.getfield 9, 3) := by decide +kernel
theorem dX5_copyFrom_21 : decode cX5_copyFrom 21 = .ok (.arraylength, 1) := by decide +kernel
theorem dX5_copyFrom_22 : decode cX5_copyFrom 22 = .ok (.if_icmp .ge 12, 3) := by decide +kernel
theorem dX5_copyFrom_25 : decode cX5_copyFrom 25 = .ok (.aload_n 1, 1) := by decide +kernel
theorem dX5_copyFrom_26 : decode cX5_copyFrom 26 = .ok (.getfield 9, 3) := by decide +kernel
theorem dX5_copyFrom_29 : decode cX5_copyFrom 29 = .ok (.iload_n 2, 1) := by decide +kernel
theorem dX5_copyFrom_30 : decode cX5_copyFrom 30 = .ok (.iaload, 1) := by decide +kernel
theorem dX5_copyFrom_31 : decode cX5_copyFrom 31 = .ok (.goto 4, 3) := by decide +kernel
theorem dX5_copyFrom_34 : decode cX5_copyFrom 34 = .ok (.iconst 0, 1) := by decide +kernel
theorem dX5_copyFrom_35 : decode cX5_copyFrom 35 = .ok (.iastore, 1) := by decide +kernel
theorem dX5_copyFrom_36 : decode cX5_copyFrom 36 = .ok (.iinc 2 1, 3) := by decide +kernel
theorem dX5_copyFrom_39 : decode cX5_copyFrom 39 = .ok (.goto (-37), 3) := by decide +kernel
theorem dX5_copyFrom_42 : decode cX5_copyFrom 42 = .ok (.aload_n 0, 1) := by decide +kernel
theorem dX5_copyFrom_43 : decode cX5_copyFrom 43 = .ok (.aload_n 1, 1) := by decide +kernel
theorem dX5_copyFrom_44 : decode cX5_copyFrom 44 = .ok (.getfield 15, 3) := by decide +kernel
theorem dX5_copyFrom_47 : decode cX5_copyFrom 47 = .ok (.putfield 15, 3) := by decide +kernel
theorem dX5_copyFrom_50 : decode cX5_copyFrom 50 = .ok (.aload_n 0, 1) := by decide +kernel
theorem dX5_copyFrom_51 : decode cX5_copyFrom 51 = .ok (.aload_n 1, 1) := by decide +kernel
theorem dX5_copyFrom_52 : decode cX5_copyFrom 52 = .ok (.getfield 19, 3) := by decide +kernel
theorem dX5_copyFrom_55 : decode cX5_copyFrom 55 = .ok (.putfield 19, 3) := by decide +kernel
theorem dX5_copyFrom_58 : decode cX5_copyFrom 58 = .ok (.aload_n 0, 1) := by decide +kernel
theorem dX5_copyFrom_59 : decode cX5_copyFrom 59 = .ok (.aload_n 1, 1) := by decide +kernel
theorem dX5_copyFrom_60 : decode cX5_copyFrom 60 = .ok (.getfield 22, 3) := by decide +kernel
theorem dX5_copyFrom_63 : decode cX5_copyFrom 63 = .ok (.putfield 22, 3) := by decide +kernel
theorem dX5_copyFrom_66 : decode cX5_copyFrom 66 = .ok (.aload_n 0, 1) := by decide +kernel
theorem dX5_copyFrom_67 : decode cX5_copyFrom 67 = .ok (.aload_n 1, 1) := by decide +kernel
theorem dX5_copyFrom_68 : decode cX5_copyFrom 68 = .ok (.getfield 26, 3) := by decide +kernel
theorem dX5_copyFrom_71 : decode cX5_copyFrom 71 = .ok (.putfield 26, 3) := by decide +kernel
theorem dX5_copyFrom_74 : decode cX5_copyFrom 74 = .ok (.aload_n 0, 1) := by decide +kernel
theorem dX5_copyFrom_75 : decode cX5_copyFrom 75 = .ok (.aload_n 1, 1) := by decide +kernel
theorem dX5_copyFrom_76 : decode cX5_copyFrom 76 = .ok (.getfield 29, 3) := by decide +kernel
theorem dX5_copyFrom_79 : decode cX5_copyFrom 79 = .ok (.putfield 29, 3) := by decide +kernel
theorem dX5_copyFrom_82 : decode cX5_copyFrom 82 = .ok (.aload_n 0, 1) := by decide +kernel
theorem dX5_copyFrom_83 : decode cX5_copyFrom 83 = .ok (.aload_n 1, 1) := by decide +kernel
theorem dX5_copyFrom_84 : decode cX5_copyFrom 84 = .ok (.getfield 32, 3) := by decide +kernel
theorem dX5_copyFrom_87 : decode cX5_copyFrom 87 = .ok (.putfield 32, 3) := by decide +kernel
theorem dX5_copyFrom_90 : decode cX5_copyFrom 90 = .ok (.return_, 1) := by decide +kernel
theorem dX7_init_0 : decode cX7_init 0 = .ok (.aload_n 0, 1) := by decide +kernel
theorem dX7_init_1 : decode cX7_init 1 = .ok (.invokespecial 3, 3) := by decide +kernel
theorem dX7_init_4 : decode cX7_init 4 = .ok (.aload_n 0, 1) := by decide +kernel
theorem dX7_init_5 : decode cX7_init 5 = .ok (.bipush 36, 2) := by decide +kernel
theorem dX7_init_7 : decode cX7_init 7 = .ok (.newarray .int, 2) := by decide +kernel
theorem dX7_init_9 : decode cX7_init 9 = .ok (.putfield 9, 3) := by decide +kernel
theorem dX7_init_12 : decode cX7_init 12 = .ok (.return_, 1) := by decide +kernel
theorem dX7_get_0 : decode cX7_get 0 = .ok (.iload_n 1, 1) := by decide +kernel
theorem dX7_get_1 : decode cX7_get 1 = .ok (.ifCond .lt 23, 3) := by decide +kernel
theorem dX7_get_4 : decode cX7_get 4 = .ok (.iload_n 1, 1) := by decide +kernel
theorem dX7_get_5 : decode cX7_get 5 = .ok (.bipush 6, 2) := by decide +kernel
theorem dX7_get_7 : decode cX7_get 7 = .ok (.if_icmp .ge 17, 3) := by decide +kernel
theorem dX7_get_10 : decode cX7_get 10 = .ok (.iload_n 2, 1) := by decide +kernel
theorem dX7_get_11 : decode cX7_get 11 = .ok (.ifCond .lt 13, 3) := by decide +kernel
theorem dX7_get_14 : decode cX7_get 14 = .ok (.iload_n 2, 1) := by decide +kernel
theorem dX7_get_15 : decode cX7_get 15 = .ok (.bipush 6, 2) := by decide +kernel
theorem dX7_get_17 : decode cX7_get 17 = .ok (.if_icmp .ge 7, 3) := by decide +kernel
theorem dX7_get_20 : decode cX7_get 20 = .ok (.iconst 1, 1) := by decide +kernel
theorem dX7_get_21 : decode cX7_get 21 = .ok (.goto 4, 3) := by decide +kernel
theorem dX7_get_24 : decode cX7_get 24 = .ok (.iconst 0, 1) := by decide +kernel
theorem dX7_get_25 : decode cX7_get 25 = .ok (.istore_n 3, 1) := by decide +kernel
theorem dX7_get_26 : decode cX7_get 26 = .ok (.iload_n 3, 1) := by decide +kernel
theorem dX7_get_27 : decode cX7_get 27 = .ok (.ifCond .eq 17, 3) := by decide +kernel
theorem dX7_get_30 : decode cX7_get 30 = .ok (.aload_n 0, 1) := by decide +kernel
theorem dX7_get_31 : decode cX7_get 31 = .ok (.getfield 9, 3) := by decide +kernel
theorem dX7_get_34 : decode cX7_get 34 = .ok (.iload_n 1, 1) := by decide +kernel
theorem dX7_get_35 : decode cX7_get 35 = .ok (.bipush 6, 2) := by decide +kernel
theorem dX7_get_37 : decode cX7_get 37 = .ok (.imul, 1) := by decide +kernel
theorem dX7_get_38 : decode cX7_get 38 = .ok (.iload_n 2, 1) := by decide +kernel
theorem dX7_get_39 : decode cX7_get 39 = .ok (.iadd, 1) := by decide +kernel
theorem dX7_get_40 : decode cX7_get 40 = .ok (.iaload, 1) := by decide +kernel
theorem dX7_get_41 : decode cX7_get 41 = .ok (.goto 4, 3) := by decide +kernel
theorem dX7_get_44 : decode cX7_get 44 = .ok (.iconst 0, 1) := by decide +kernel
theorem dX7_get_45 : decode cX7_get 45 = .ok (.ireturn, 1) := by decide +kernel
theorem dX7_set_0 : decode cX7_set 0 = .ok (.iload_n 1, 1) := by decide +kernel
theorem dX7_set_1 : decode cX7_set 1 = .ok (.ifCond .lt 31, 3) := by decide +kernel
theorem dX7_set_4 : decode cX7_set 4 = .ok (.iload_n 1, 1) := by decide +kernel
theorem dX7_set_5 : decode cX7_set 5 = .ok (.bipush 6, 2) := by decide +kernel
theorem dX7_set_7 : decode cX7_set 7 = .ok (.if_icmp .ge 25, 3) := by decide +kernel
theorem dX7_set_10 : decode cX7_set 10 = .ok (.iload_n 2, 1) := by decide +kernel
theorem dX7_set_11 : decode cX7_set 11 = .ok (.ifCond .lt 21, 3) := by decide +kernel
theorem dX7_set_14 : decode cX7_set 14 = .ok (.iload_n 2, 1) := by decide +kernel
theorem dX7_set_15 : decode cX7_set 15 = .ok (.bipush 6, 2) := by decide +kernel
theorem dX7_set_17 : decode cX7_set 17 = .ok (.if_icmp .ge 15, 3) := by decide +kernel
theorem dX7_set_20 : decode cX7_set 20 = .ok (.aload_n 0, 1) := by decide +kernel
theorem dX7_set_21 : decode cX7_set 21 = .ok (.getfield 9, 3) := by decide +kernel
theorem dX7_set_24 : decode cX7_set 24 = .ok (.iload_n 1, 1) := by decide +kernel
theorem dX7_set_25 : decode cX7_set 25 = .ok (.bipush 6, 2) := by decide +kernel
theorem dX7_set_27 : decode cX7_set 27 = .ok (.imul, 1) := by decide +kernel
theorem dX7_set_28 : decode cX7_set 28 = .ok (.iload_n 2, 1) := by decide +kernel
theorem dX7_set_29 : decode cX7_set 29 = .ok (.iadd, 1) := by decide +kernel
theorem dX7_set_30 : decode cX7_set 30 = .ok (.iload_n 3, 1) := by decide +kernel
theorem dX7_set_31 : decode cX7_set 31 = .ok (.iastore, 1) := by decide +kernel
theorem dX7_set_32 : decode cX7_set 32 = .ok (.return_, 1) := by decide +kernel
theorem dX7_totalOf_0 : decode cX7_totalOf 0 = .ok (.iconst 0, 1) := by decide +kernel
theorem dX7_totalOf_1 : decode cX7_totalOf 1 = .ok (.istore_n 2, 1) := by decide +kernel
theorem dX7_totalOf_2 : decode cX7_totalOf 2 = .ok (.iconst 0, 1) := by decide +kernel
theorem dX7_totalOf_3 : decode cX7_totalOf 3 = .ok (.istore_n 3, 1) := by decide +kernel
theorem dX7_totalOf_4 : decode cX7_totalOf 4 = .ok (.iload_n 3, 1) := by decide +kernel
theorem dX7_totalOf_5 : decode cX7_totalOf 5 = .ok (.bipush 6, 2) := by decide +kernel
theorem dX7_totalOf_7 : decode cX7_totalOf 7 = .ok (.if_icmp .ge 18, 3) := by decide +kernel
theorem dX7_totalOf_10 : decode cX7_totalOf 10 = .ok (.iload_n 2, 1) := by decide +kernel
theorem dX7_totalOf_11 : decode cX7_totalOf 11 = .ok (.aload_n 0, 1) := by decide +kernel
theorem dX7_totalOf_12 : decode cX7_totalOf 12 = .ok (.iload_n 1, 1) := by decide +kernel
theorem dX7_totalOf_13 : decode cX7_totalOf 13 = .ok (.iload_n 3, 1) := by decide +kernel
theorem dX7_totalOf_14 : decode cX7_totalOf 14 = .ok (.invokevirtual 15, 3) := by decide +kernel
theorem dX7_totalOf_17 : decode cX7_totalOf 17 = .ok (.iadd, 1) := by decide +kernel
theorem dX7_totalOf_18 : decode cX7_totalOf 18 = .ok (.istore_n 2, 1) := by decide +kernel
theorem dX7_totalOf_19 : decode cX7_totalOf 19 = .ok (.iinc 3 1, 3) := by decide +kernel
theorem dX7_totalOf_22 : decode cX7_totalOf 22 = .ok (.goto (-18), 3) := by decide +kernel
theorem dX7_totalOf_25 : decode cX7_totalOf 25 = .ok (.iload_n 2, 1) := by decide +kernel
theorem dX7_totalOf_26 : decode cX7_totalOf 26 = .ok (.ireturn, 1) := by decide +kernel
theorem dX7_momentOf_0 : decode cX7_momentOf 0 = .ok (.iconst 0, 1) := by decide +kernel
theorem dX7_momentOf_1 : decode cX7_momentOf 1 = .ok (.istore_n 2, 1) := by decide +kernel
theorem dX7_momentOf_2 : decode cX7_momentOf 2 = .ok (.iconst 0, 1) := by decide +kernel
theorem dX7_momentOf_3 : decode cX7_momentOf 3 = .ok (.istore_n 3, 1) := by decide +kernel
theorem dX7_momentOf_4 : decode cX7_momentOf 4 = .ok (.iload_n 3, 1) := by decide +kernel
theorem dX7_momentOf_5 : decode cX7_momentOf 5 = .ok (.bipush 6, 2) := by decide +kernel
theorem dX7_momentOf_7 : decode cX7_momentOf 7 = .ok (.if_icmp .ge 20, 3) := by decide +kernel
theorem dX7_momentOf_10 : decode cX7_momentOf 10 = .ok (.iload_n 2, 1) := by decide +kernel
theorem dX7_momentOf_11 : decode cX7_momentOf 11 = .ok (.iload_n 3, 1) := by decide +kernel
theorem dX7_momentOf_12 : decode cX7_momentOf 12 = .ok (.aload_n 0, 1) := by decide +kernel
theorem dX7_momentOf_13 : decode cX7_momentOf 13 = .ok (.iload_n 1, 1) := by decide +kernel
theorem dX7_momentOf_14 : decode cX7_momentOf 14 = .ok (.iload_n 3, 1) := by decide +kernel
theorem dX7_momentOf_15 : decode cX7_momentOf 15 = .ok (.invokevirtual 15, 3) := by decide +kernel
theorem dX7_momentOf_18 : decode cX7_momentOf 18 = .ok (.imul, 1) := by decide +kernel
theorem dX7_momentOf_19 : decode cX7_momentOf 19 = .ok (.iadd, 1) := by decide +kernel
theorem dX7_momentOf_20 : decode cX7_momentOf 20 = .ok (.istore_n 2, 1) := by decide +kernel
theorem dX7_momentOf_21 : decode cX7_momentOf 21 = .ok (.iinc 3 1, 3) := by decide +kernel
theorem dX7_momentOf_24 : decode cX7_momentOf 24 = .ok (.goto (-20), 3) := by decide +kernel
theorem dX7_momentOf_27 : decode cX7_momentOf 27 = .ok (.iload_n 2, 1) := by decide +kernel
theorem dX7_momentOf_28 : decode cX7_momentOf 28 = .ok (.ireturn, 1) := by decide +kernel
theorem dX7_leastLoadOf_0 : decode cX7_leastLoadOf 0 = .ok (.iconst 0, 1) := by decide +kernel
theorem dX7_leastLoadOf_1 : decode cX7_leastLoadOf 1 = .ok (.istore_n 2, 1) := by decide +kernel
theorem dX7_leastLoadOf_2 : decode cX7_leastLoadOf 2 = .ok (.iload_n 2, 1) := by decide +kernel
theorem dX7_leastLoadOf_3 : decode cX7_leastLoadOf 3 = .ok (.bipush 6, 2) := by decide +kernel
theorem dX7_leastLoadOf_5 : decode cX7_leastLoadOf 5 = .ok (.if_icmp .ge 20, 3) := by decide +kernel
theorem dX7_leastLoadOf_8 : decode cX7_leastLoadOf 8 = .ok (.aload_n 0, 1) := by decide +kernel
theorem dX7_leastLoadOf_9 : decode cX7_leastLoadOf 9 = .ok (.iload_n 1, 1) := by decide +kernel
theorem dX7_leastLoadOf_10 : decode cX7_leastLoadOf 10 = .ok (.iload_n 2, 1) := by decide +kernel
theorem dX7_leastLoadOf_11 : decode cX7_leastLoadOf 11 = .ok (.invokevirtual 15, 3) := by decide +kernel
theorem dX7_leastLoadOf_14 : decode cX7_leastLoadOf 14 = .ok (.ifCond .le 5, 3) := by decide +kernel
theorem dX7_leastLoadOf_17 : decode cX7_leastLoadOf 17 = .ok (.iload_n 2, 1) := by decide +kernel
theorem dX7_leastLoadOf_18 : decode cX7_leastLoadOf 18 = .ok (.ireturn, 1) := by decide +kernel
theorem dX7_leastLoadOf_19 : decode cX7_leastLoadOf 19 = .ok (.iinc 2 1, 3) := by decide +kernel
theorem dX7_leastLoadOf_22 : decode cX7_leastLoadOf 22 = .ok (.goto (-20), 3) := by decide +kernel
theorem dX7_leastLoadOf_25 : decode cX7_leastLoadOf 25 = .ok (.iconst (-1), 1) := by decide +kernel
theorem dX7_leastLoadOf_26 : decode cX7_leastLoadOf 26 = .ok (.ireturn, 1) := by decide +kernel
theorem dX7_greatestLoadOf_0 : decode cX7_greatestLoadOf 0 = .ok (.iconst 5, 1) := by decide +kernel
theorem dX7_greatestLoadOf_1 : decode cX7_greatestLoadOf 1 = .ok (.istore_n 2, 1) := by decide +kernel
theorem dX7_greatestLoadOf_2 : decode cX7_greatestLoadOf 2 = .ok (.iload_n 2, 1) := by decide +kernel
theorem dX7_greatestLoadOf_3 : decode cX7_greatestLoadOf 3 = .ok (.ifCond .lt 20, 3) := by decide +kernel
theorem dX7_greatestLoadOf_6 : decode cX7_greatestLoadOf 6 = .ok (.aload_n 0, 1) := by decide +kernel
theorem dX7_greatestLoadOf_7 : decode cX7_greatestLoadOf 7 = .ok (.iload_n 1, 1) := by decide +kernel
theorem dX7_greatestLoadOf_8 : decode cX7_greatestLoadOf 8 = .ok (.iload_n 2, 1) := by decide +kernel
theorem dX7_greatestLoadOf_9 : decode cX7_greatestLoadOf 9 = .ok (.invokevirtual 15, 3) := by decide +kernel
theorem dX7_greatestLoadOf_12 : decode cX7_greatestLoadOf 12 = .ok (.ifCond .le 5, 3) := by decide +kernel
theorem dX7_greatestLoadOf_15 : decode cX7_greatestLoadOf 15 = .ok (.iload_n 2, 1) := by decide +kernel
theorem dX7_greatestLoadOf_16 : decode cX7_greatestLoadOf 16 = .ok (.ireturn, 1) := by decide +kernel
theorem dX7_greatestLoadOf_17 : decode cX7_greatestLoadOf 17 = .ok (.iinc 2 (-1), 3) := by decide +kernel
theorem dX7_greatestLoadOf_20 : decode cX7_greatestLoadOf 20 = .ok (.goto (-18), 3) := by decide +kernel
theorem dX7_greatestLoadOf_23 : decode cX7_greatestLoadOf 23 = .ok (.iconst (-1), 1) := by decide +kernel
theorem dX7_greatestLoadOf_24 : decode cX7_greatestLoadOf 24 = .ok (.ireturn, 1) := by decide +kernel
theorem dX7_dropRow_0 : decode cX7_dropRow 0 = .ok (.iload_n 1, 1) := by decide +kernel
theorem dX7_dropRow_1 : decode cX7_dropRow 1 = .ok (.istore_n 2, 1) := by decide +kernel
theorem dX7_dropRow_2 : decode cX7_dropRow 2 = .ok (.iload_n 2, 1) := by decide +kernel
theorem dX7_dropRow_3 : decode cX7_dropRow 3 = .ok (.bipush 6, 2) := by decide +kernel
theorem dX7_dropRow_5 : decode cX7_dropRow 5 = .ok (.if_icmp .ge 37, 3) := by decide +kernel
theorem dX7_dropRow_8 : decode cX7_dropRow 8 = .ok (.iconst 0, 1) := by decide +kernel
theorem dX7_dropRow_9 : decode cX7_dropRow 9 = .ok (.istore_n 3, 1) := by decide +kernel
theorem dX7_dropRow_10 : decode cX7_dropRow 10 = .ok (.iload_n 3, 1) := by decide +kernel
theorem dX7_dropRow_11 : decode cX7_dropRow 11 = .ok (.bipush 6, 2) := by decide +kernel
theorem dX7_dropRow_13 : decode cX7_dropRow 13 = .ok (.if_icmp .ge 23, 3) := by decide +kernel
theorem dX7_dropRow_16 : decode cX7_dropRow 16 = .ok (.aload_n 0, 1) := by decide +kernel
theorem dX7_dropRow_17 : decode cX7_dropRow 17 = .ok (.iload_n 2, 1) := by decide +kernel
theorem dX7_dropRow_18 : decode cX7_dropRow 18 = .ok (.iload_n 3, 1) := by decide +kernel
theorem dX7_dropRow_19 : decode cX7_dropRow 19 = .ok (.aload_n 0, 1) := by decide +kernel
theorem dX7_dropRow_20 : decode cX7_dropRow 20 = .ok (.iload_n 2, 1) := by decide +kernel
theorem dX7_dropRow_21 : decode cX7_dropRow 21 = .ok (.iconst 1, 1) := by decide +kernel
theorem dX7_dropRow_22 : decode cX7_dropRow 22 = .ok (.iadd, 1) := by decide +kernel
theorem dX7_dropRow_23 : decode cX7_dropRow 23 = .ok (.iload_n 3, 1) := by decide +kernel
theorem dX7_dropRow_24 : decode cX7_dropRow 24 = .ok (.invokevirtual 15, 3) := by decide +kernel
theorem dX7_dropRow_27 : decode cX7_dropRow 27 = .ok (.invokevirtual 19, 3) := by decide +kernel
theorem dX7_dropRow_30 : decode cX7_dropRow 30 = .ok (.iinc 3 1, 3) := by decide +kernel
theorem dX7_dropRow_33 : decode cX7_dropRow 33 = .ok (.goto (-23), 3) := by decide +kernel
theorem dX7_dropRow_36 : decode cX7_dropRow 36 = .ok (.iinc 2 1, 3) := by decide +kernel
theorem dX7_dropRow_39 : decode cX7_dropRow 39 = .ok (.goto (-37), 3) := by decide +kernel
theorem dX7_dropRow_42 : decode cX7_dropRow 42 = .ok (.return_, 1) := by decide +kernel
theorem dX7_copyFrom_0 : decode cX7_copyFrom 0 = .ok (.iconst 0, 1) := by decide +kernel
theorem dX7_copyFrom_1 : decode cX7_copyFrom 1 = .ok (.istore_n 2, 1) := by decide +kernel
theorem dX7_copyFrom_2 : decode cX7_copyFrom 2 = .ok (.iload_n 2, 1) := by decide +kernel
theorem dX7_copyFrom_3 : decode cX7_copyFrom 3 = .ok (.aload_n 0, 1) := by decide +kernel
theorem dX7_copyFrom_4 : decode cX7_copyFrom 4 = .ok (.getfield 9, 3) := by decide +kernel
theorem dX7_copyFrom_7 : decode cX7_copyFrom 7 = .ok (.arraylength, 1) := by decide +kernel
theorem dX7_copyFrom_8 : decode cX7_copyFrom 8 = .ok (.if_icmp .ge 30, 3) := by decide +kernel
theorem dX7_copyFrom_11 : decode cX7_copyFrom 11 = .ok (.iload_n 2, 1) := by decide +kernel
theorem dX7_copyFrom_12 : decode cX7_copyFrom 12 = .ok (.aload_n 1, 1) := by decide +kernel
theorem dX7_copyFrom_13 : decode cX7_copyFrom 13 = .ok (.getfield 9, 3) := by decide +kernel
theorem dX7_copyFrom_16 : decode cX7_copyFrom 16 = .ok (.arraylength, 1) := by decide +kernel
theorem dX7_copyFrom_17 : decode cX7_copyFrom 17 = .ok (.if_icmp .ge 21, 3) := by decide +kernel
theorem dX7_copyFrom_20 : decode cX7_copyFrom 20 = .ok (.aload_n 0, 1) := by decide +kernel
theorem dX7_copyFrom_21 : decode cX7_copyFrom 21 = .ok (.getfield 9, 3) := by decide +kernel
theorem dX7_copyFrom_24 : decode cX7_copyFrom 24 = .ok (.iload_n 2, 1) := by decide +kernel
theorem dX7_copyFrom_25 : decode cX7_copyFrom 25 = .ok (.aload_n 1, 1) := by decide +kernel
theorem dX7_copyFrom_26 : decode cX7_copyFrom 26 = .ok (.getfield 9, 3) := by decide +kernel
theorem dX7_copyFrom_29 : decode cX7_copyFrom 29 = .ok (.iload_n 2, 1) := by decide +kernel
theorem dX7_copyFrom_30 : decode cX7_copyFrom 30 = .ok (.iaload, 1) := by decide +kernel
theorem dX7_copyFrom_31 : decode cX7_copyFrom 31 = .ok (.iastore, 1) := by decide +kernel
theorem dX7_copyFrom_32 : decode cX7_copyFrom 32 = .ok (.iinc 2 1, 3) := by decide +kernel
theorem dX7_copyFrom_35 : decode cX7_copyFrom 35 = .ok (.goto (-33), 3) := by decide +kernel
theorem dX7_copyFrom_38 : decode cX7_copyFrom 38 = .ok (.return_, 1) := by decide +kernel
theorem dX8_init_0 : decode cX8_init 0 = .ok (.aload_n 0, 1) := by decide +kernel
theorem dX8_init_1 : decode cX8_init 1 = .ok (.invokespecial 3, 3) := by decide +kernel
theorem dX8_init_4 : decode cX8_init 4 = .ok (.aload_n 0, 1) := by decide +kernel
theorem dX8_init_5 : decode cX8_init 5 = .ok (.bipush 60, 2) := by decide +kernel
theorem dX8_init_7 : decode cX8_init 7 = .ok (.newarray .int, 2) := by decide +kernel
theorem dX8_init_9 : decode cX8_init 9 = .ok (.putfield 9, 3) := by decide +kernel
theorem dX8_init_12 : decode cX8_init 12 = .ok (.aload_n 0, 1) := by decide +kernel
theorem dX8_init_13 : decode cX8_init 13 = .ok (.iconst 0, 1) := by decide +kernel
theorem dX8_init_14 : decode cX8_init 14 = .ok (.putfield 15, 3) := by decide +kernel
theorem dX8_init_17 : decode cX8_init 17 = .ok (.return_, 1) := by decide +kernel
theorem dX9_init_0 : decode cX9_init 0 = .ok (.aload_n 0, 1) := by decide +kernel
theorem dX9_init_1 : decode cX9_init 1 = .ok (.invokespecial 3, 3) := by decide +kernel
theorem dX9_init_4 : decode cX9_init 4 = .ok (.aload_n 0, 1) := by decide +kernel
theorem dX9_init_5 : decode cX9_init 5 = .ok (.new 9, 3) := by decide +kernel
theorem dX9_init_8 : decode cX9_init 8 = .ok (.dup, 1) := by decide +kernel
theorem dX9_init_9 : decode cX9_init 9 = .ok (.invokespecial 11, 3) := by decide +kernel
theorem dX9_init_12 : decode cX9_init 12 = .ok (.putfield 12, 3) := by decide +kernel
theorem dX9_init_15 : decode cX9_init 15 = .ok (.aload_n 0, 1) := by decide +kernel
theorem dX9_init_16 : decode cX9_init 16 = .ok (.new 16, 3) := by decide +kernel
theorem dX9_init_19 : decode cX9_init 19 = .ok (.dup, 1) := by decide +kernel
theorem dX9_init_20 : decode cX9_init 20 = .ok (.invokespecial 18, 3) := by decide +kernel
theorem dX9_init_23 : decode cX9_init 23 = .ok (.putfield 19, 3) := by decide +kernel
theorem dX9_init_26 : decode cX9_init 26 = .ok (.aload_n 0, 1) := by decide +kernel
theorem dX9_init_27 : decode cX9_init 27 = .ok (.new 23, 3) := by decide +kernel
theorem dX9_init_30 : decode cX9_init 30 = .ok (.dup, 1) := by decide +kernel
theorem dX9_init_31 : decode cX9_init 31 = .ok (.invokespecial 25, 3) := by decide +kernel
theorem dX9_init_34 : decode cX9_init 34 = .ok (.putfield 26, 3) := by decide +kernel
theorem dX9_init_37 : decode cX9_init 37 = .ok (.aload_n 0, 1) := by decide +kernel
theorem dX9_init_38 : decode cX9_init 38 = .ok (.new 30, 3) := by decide +kernel
theorem dX9_init_41 : decode cX9_init 41 = .ok (.dup, 1) := by decide +kernel
theorem dX9_init_42 : decode cX9_init 42 = .ok (.invokespecial 32, 3) := by decide +kernel
theorem dX9_init_45 : decode cX9_init 45 = .ok (.putfield 33, 3) := by decide +kernel
theorem dX9_init_48 : decode cX9_init 48 = .ok (.aload_n 0, 1) := by decide +kernel
theorem dX9_init_49 : decode cX9_init 49 = .ok (.new 37, 3) := by decide +kernel
theorem dX9_init_52 : decode cX9_init 52 = .ok (.dup, 1) := by decide +kernel
theorem dX9_init_53 : decode cX9_init 53 = .ok (.invokespecial 39, 3) := by decide +kernel
theorem dX9_init_56 : decode cX9_init 56 = .ok (.putfield 40, 3) := by decide +kernel
theorem dX9_init_59 : decode cX9_init 59 = .ok (.aload_n 0, 1) := by decide +kernel
theorem dX9_init_60 : decode cX9_init 60 = .ok (.new 44, 3) := by decide +kernel
theorem dX9_init_63 : decode cX9_init 63 = .ok (.dup, 1) := by decide +kernel
theorem dX9_init_64 : decode cX9_init 64 = .ok (.invokespecial 46, 3) := by decide +kernel
theorem dX9_init_67 : decode cX9_init 67 = .ok (.putfield 47, 3) := by decide +kernel
theorem dX9_init_70 : decode cX9_init 70 = .ok (.return_, 1) := by decide +kernel
theorem dX9_addPart_0 : decode cX9_addPart 0 = .ok (.iload_n 1, 1) := by decide +kernel
theorem dX9_addPart_1 : decode cX9_addPart 1 = .ok (.ifCond .lt 9, 3) := by decide +kernel
theorem dX9_addPart_4 : decode cX9_addPart 4 = .ok (.iload_n 1, 1) := by decide +kernel
theorem dX9_addPart_5 : decode cX9_addPart 5 = .ok (.bipush 6, 2) := by decide +kernel
theorem dX9_addPart_7 : decode cX9_addPart 7 = .ok (.if_icmp .lt 13, 3) := by decide +kernel
theorem dX9_addPart_10 : decode cX9_addPart 10 = .ok (.new 51, 3) := by decide +kernel
theorem dX9_addPart_13 : decode cX9_addPart 13 = .ok (.dup, 1) := by decide +kernel
theorem dX9_addPart_14 : decode cX9_addPart 14 = .ok (.ldc 53, 2) := by decide +kernel
theorem dX9_addPart_16 : decode cX9_addPart 16 = .ok (.invokespecial 55, 3) := by decide +kernel
theorem dX9_addPart_19 : decode cX9_addPart 19 = .ok (.athrow, 1) := by decide +kernel
theorem dX9_addPart_20 : decode cX9_addPart 20 = .ok (.aload_n 0, 1) := by decide +kernel
theorem dX9_addPart_21 : decode cX9_addPart 21 = .ok (.getfield 12, 3) := by decide +kernel
theorem dX9_addPart_24 : decode cX9_addPart 24 = .ok (.getfield 58, 3) := by decide +kernel
theorem dX9_addPart_27 : decode cX9_addPart 27 = .ok (.bipush 6, 2) := by decide +kernel
theorem dX9_addPart_29 : decode cX9_addPart 29 = .ok (.if_icmp .lt 13, 3) := by decide +kernel
theorem dX9_addPart_32 : decode cX9_addPart 32 = .ok (.new 62, 3) := by decide +kernel
theorem dX9_addPart_35 : decode cX9_addPart 35 = .ok (.dup, 1) := by decide +kernel
theorem dX9_addPart_36 : decode cX9_addPart 36 = .ok (.ldc 64, 2) := by decide +kernel
theorem dX9_addPart_38 : decode cX9_addPart 38 = .ok (.invokespecial 66, 3) := by decide +kernel
theorem dX9_addPart_41 : decode cX9_addPart 41 = .ok (.athrow, 1) := by decide +kernel
theorem dX9_addPart_42 : decode cX9_addPart 42 = .ok (.aload_n 0, 1) := by decide +kernel
theorem dX9_addPart_43 : decode cX9_addPart 43 = .ok (.getfield 19, 3) := by decide +kernel
theorem dX9_addPart_46 : decode cX9_addPart 46 = .ok (.aload_n 0, 1) := by decide +kernel
theorem dX9_addPart_47 : decode cX9_addPart 47 = .ok (.getfield 12, 3) := by decide +kernel
theorem dX9_addPart_50 : decode cX9_addPart 50 = .ok (.invokevirtual 67, 3) := by decide +kernel
theorem dX9_addPart_53 : decode cX9_addPart 53 = .ok (.aload_n 0, 1) := by decide +kernel
theorem dX9_addPart_54 : decode cX9_addPart 54 = .ok (.getfield 12, 3) := by decide +kernel
theorem dX9_addPart_57 : decode cX9_addPart 57 = .ok (.invokevirtual 71, 3) := by decide +kernel
theorem dX9_addPart_60 : decode cX9_addPart 60 = .ok (.istore_n 2, 1) := by decide +kernel
theorem dX9_addPart_61 : decode cX9_addPart 61 = .ok (.iconst 0, 1) := by decide +kernel
theorem dX9_addPart_62 : decode cX9_addPart 62 = .ok (.istore_n 3, 1) := by decide +kernel
theorem dX9_addPart_63 : decode cX9_addPart 63 = .ok (.iload_n 3, 1) := by decide +kernel
theorem dX9_addPart_64 : decode cX9_addPart 64 = .ok (.iload_n 1, 1) := by decide +kernel
theorem dX9_addPart_65 : decode cX9_addPart 65 = .ok (.if_icmp .gt 19, 3) := by decide +kernel
theorem dX9_addPart_68 : decode cX9_addPart 68 = .ok (.aload_n 0, 1) := by decide +kernel
theorem dX9_addPart_69 : decode cX9_addPart 69 = .ok (.getfield 12, 3) := by decide +kernel
theorem dX9_addPart_72 : decode cX9_addPart 72 = .ok (.iload_n 2, 1) := by decide +kernel
theorem dX9_addPart_73 : decode cX9_addPart 73 = .ok (.iload_n 3, 1) := by decide +kernel
theorem dX9_addPart_74 : decode cX9_addPart 74 = .ok (.iconst 1, 1) := by decide +kernel
theorem dX9_addPart_75 : decode cX9_addPart 75 = .ok (.invokevirtual 75, 3) := by decide +kernel
theorem dX9_addPart_78 : decode cX9_addPart 78 = .ok (.iinc 3 1, 3) := by decide +kernel
theorem dX9_addPart_81 : decode cX9_addPart 81 = .ok (.goto (-18), 3) := by decide +kernel
theorem dX9_addPart_84 : decode cX9_addPart 84 = .ok (.iload_n 2, 1) := by decide +kernel
theorem dX9_addPart_85 : decode cX9_addPart 85 = .ok (.ireturn, 1) := by decide +kernel
theorem dX9_removePart_0 : decode cX9_removePart 0 = .ok (.aload_n 0, 1) := by decide +kernel
theorem dX9_removePart_1 : decode cX9_removePart 1 = .ok (.iload_n 1, 1) := by decide +kernel
theorem dX9_removePart_2 : decode cX9_removePart 2 = .ok (.invokevirtual 79, 3) := by decide +kernel
theorem dX9_removePart_5 : decode cX9_removePart 5 = .ok (.aload_n 0, 1) := by decide +kernel
theorem dX9_removePart_6 : decode cX9_removePart 6 = .ok (.getfield 19, 3) := by decide +kernel
theorem dX9_removePart_9 : decode cX9_removePart 9 = .ok (.aload_n 0, 1) := by decide +kernel
theorem dX9_removePart_10 : decode cX9_removePart 10 = .ok (.getfield 12, 3) := by decide +kernel
theorem dX9_removePart_13 : decode cX9_removePart 13 = .ok (.invokevirtual 67, 3) := by decide +kernel
theorem dX9_removePart_16 : decode cX9_removePart 16 = .ok (.aload_n 0, 1) := by decide +kernel
theorem dX9_removePart_17 : decode cX9_removePart 17 = .ok (.getfield 12, 3) := by decide +kernel
theorem dX9_removePart_20 : decode cX9_removePart 20 = .ok (.iload_n 1, 1) := by decide +kernel
theorem dX9_removePart_21 : decode cX9_removePart 21 = .ok (.invokevirtual 83, 3) := by decide +kernel
theorem dX9_removePart_24 : decode cX9_removePart 24 = .ok (.aload_n 0, 1) := by decide +kernel
theorem dX9_removePart_25 : decode cX9_removePart 25 = .ok (.getfield 12, 3) := by decide +kernel
theorem dX9_removePart_28 : decode cX9_removePart 28 = .ok (.getfield 58, 3) := by decide +kernel
theorem dX9_removePart_31 : decode cX9_removePart 31 = .ok (.ireturn, 1) := by decide +kernel
theorem dX9_weigh_0 : decode cX9_weigh 0 = .ok (.aload_n 0, 1) := by decide +kernel
theorem dX9_weigh_1 : decode cX9_weigh 1 = .ok (.iload_n 1, 1) := by decide +kernel
theorem dX9_weigh_2 : decode cX9_weigh 2 = .ok (.invokevirtual 79, 3) := by decide +kernel
theorem dX9_weigh_5 : decode cX9_weigh 5 = .ok (.iload_n 2, 1) := by decide +kernel
theorem dX9_weigh_6 : decode cX9_weigh 6 = .ok (.invokestatic 86, 3) := by decide +kernel
theorem dX9_weigh_9 : decode cX9_weigh 9 = .ok (.iload_n 3, 1) := by decide +kernel
theorem dX9_weigh_10 : decode cX9_weigh 10 = .ok (.iconst 0, 1) := by decide +kernel
theorem dX9_weigh_11 : decode cX9_weigh 11 = .ok (.bipush 9, 2) := by decide +kernel
theorem dX9_weigh_13 : decode cX9_weigh 13 = .ok (.invokestatic 89, 3) := by decide +kernel
theorem dX9_weigh_16 : decode cX9_weigh 16 = .ok (.aload_n 0, 1) := by decide +kernel
theorem dX9_weigh_17 : decode cX9_weigh 17 = .ok (.getfield 12, 3) := by decide +kernel
theorem dX9_weigh_20 : decode cX9_weigh 20 = .ok (.getfield 92, 3) := by decide +kernel
theorem dX9_weigh_23 : decode cX9_weigh 23 = .ok (.iload_n 1, 1) := by decide +kernel
theorem dX9_weigh_24 : decode cX9_weigh 24 = .ok (.iload_n 2, 1) := by decide +kernel
theorem dX9_weigh_25 : decode cX9_weigh 25 = .ok (.invokevirtual 96, 3) := by decide +kernel
theorem dX9_weigh_28 : decode cX9_weigh 28 = .ok (.istore 4, 2) := by decide +kernel
theorem dX9_weigh_30 : decode cX9_weigh 30 = .ok (.iload_n 3, 1) := by decide +kernel
theorem dX9_weigh_31 : decode cX9_weigh 31 = .ok (.ifCond .ne 29, 3) := by decide +kernel
theorem dX9_weigh_34 : decode cX9_weigh 34 = .ok (.aload_n 0, 1) := by decide +kernel
theorem dX9_weigh_35 : decode cX9_weigh 35 = .ok (.getfield 12, 3) := by decide +kernel
theorem dX9_weigh_38 : decode cX9_weigh 38 = .ok (.getfield 92, 3) := by decide +kernel
theorem dX9_weigh_41 : decode cX9_weigh 41 = .ok (.iload_n 1, 1) := by decide +kernel
theorem dX9_weigh_42 : decode cX9_weigh 42 = .ok (.invokevirtual 102, 3) := by decide +kernel
theorem dX9_weigh_45 : decode cX9_weigh 45 = .ok (.iload 4, 2) := by decide +kernel
theorem dX9_weigh_47 : decode cX9_weigh 47 = .ok (.if_icmp .ne 13, 3) := by decide +kernel
theorem dX9_weigh_50 : decode cX9_weigh 50 = .ok (.new 62, 3) := by decide +kernel
theorem dX9_weigh_53 : decode cX9_weigh 53 = .ok (.dup, 1) := by decide +kernel
theorem dX9_weigh_54 : decode cX9_weigh 54 = .ok (.ldc 106, 2) := by decide +kernel
theorem dX9_weigh_56 : decode cX9_weigh 56 = .ok (.invokespecial 66, 3) := by decide +kernel
theorem dX9_weigh_59 : decode cX9_weigh 59 = .ok (.athrow, 1) := by decide +kernel
theorem dX9_weigh_60 : decode cX9_weigh 60 = .ok (.aload_n 0, 1) := by decide +kernel
theorem dX9_weigh_61 : decode cX9_weigh 61 = .ok (.getfield 19, 3) := by decide +kernel
theorem dX9_weigh_64 : decode cX9_weigh 64 = .ok (.aload_n 0, 1) := by decide +kernel
theorem dX9_weigh_65 : decode cX9_weigh 65 = .ok (.getfield 12, 3) := by decide +kernel
theorem dX9_weigh_68 : decode cX9_weigh 68 = .ok (.invokevirtual 67, 3) := by decide +kernel
theorem dX9_weigh_71 : decode cX9_weigh 71 = .ok (.aload_n 0, 1) := by decide +kernel
theorem dX9_weigh_72 : decode cX9_weigh 72 = .ok (.getfield 12, 3) := by decide +kernel
theorem dX9_weigh_75 : decode cX9_weigh 75 = .ok (.iload_n 1, 1) := by decide +kernel
theorem dX9_weigh_76 : decode cX9_weigh 76 = .ok (.iload_n 2, 1) := by decide +kernel
theorem dX9_weigh_77 : decode cX9_weigh 77 = .ok (.iload_n 3, 1) := by decide +kernel
theorem dX9_weigh_78 : decode cX9_weigh 78 = .ok (.invokevirtual 108, 3) := by decide +kernel
theorem dX9_weigh_81 : decode cX9_weigh 81 = .ok (.iload 4, 2) := by decide +kernel
theorem dX9_weigh_83 : decode cX9_weigh 83 = .ok (.ireturn, 1) := by decide +kernel
theorem dX9_tilt_0 : decode cX9_tilt 0 = .ok (.aload_n 0, 1) := by decide +kernel
theorem dX9_tilt_1 : decode cX9_tilt 1 = .ok (.iload_n 1, 1) := by decide +kernel
theorem dX9_tilt_2 : decode cX9_tilt 2 = .ok (.invokevirtual 79, 3) := by decide +kernel
theorem dX9_tilt_5 : decode cX9_tilt 5 = .ok (.iload_n 2, 1) := by decide +kernel
theorem dX9_tilt_6 : decode cX9_tilt 6 = .ok (.invokestatic 86, 3) := by decide +kernel
theorem dX9_tilt_9 : decode cX9_tilt 9 = .ok (.iload_n 3, 1) := by decide +kernel
theorem dX9_tilt_10 : decode cX9_tilt 10 = .ok (.iconst 1, 1) := by decide +kernel
theorem dX9_tilt_11 : decode cX9_tilt 11 = .ok (.bipush 99, 2) := by decide +kernel
theorem dX9_tilt_13 : decode cX9_tilt 13 = .ok (.invokestatic 89, 3) := by decide +kernel
theorem dX9_tilt_16 : decode cX9_tilt 16 = .ok (.aload_n 0, 1) := by decide +kernel
theorem dX9_tilt_17 : decode cX9_tilt 17 = .ok (.getfield 12, 3) := by decide +kernel
theorem dX9_tilt_20 : decode cX9_tilt 20 = .ok (.getfield 92, 3) := by decide +kernel
theorem dX9_tilt_23 : decode cX9_tilt 23 = .ok (.iload_n 1, 1) := by decide +kernel
theorem dX9_tilt_24 : decode cX9_tilt 24 = .ok (.iload_n 2, 1) := by decide +kernel
theorem dX9_tilt_25 : decode cX9_tilt 25 = .ok (.invokevirtual 96, 3) := by decide +kernel
theorem dX9_tilt_28 : decode cX9_tilt 28 = .ok (.ifCond .ne 13, 3) := by decide +kernel
theorem dX9_tilt_31 : decode cX9_tilt 31 = .ok (.new 62, 3) := by decide +kernel
theorem dX9_tilt_34 : decode cX9_tilt 34 = .ok (.dup, 1) := by decide +kernel
theorem dX9_tilt_35 : decode cX9_tilt 35 = .ok (.ldc 111, 2) := by decide +kernel
theorem dX9_tilt_37 : decode cX9_tilt 37 = .ok (.invokespecial 66, 3) := by decide +kernel
theorem dX9_tilt_40 : decode cX9_tilt 40 = .ok (.athrow, 1) := by decide +kernel
theorem dX9_tilt_41 : decode cX9_tilt 41 = .ok (.aload_n 0, 1) := by decide +kernel
theorem dX9_tilt_42 : decode cX9_tilt 42 = .ok (.getfield 19, 3) := by decide +kernel
theorem dX9_tilt_45 : decode cX9_tilt 45 = .ok (.aload_n 0, 1) := by decide +kernel
theorem dX9_tilt_46 : decode cX9_tilt 46 = .ok (.getfield 12, 3) := by decide +kernel
theorem dX9_tilt_49 : decode cX9_tilt 49 = .ok (.invokevirtual 67, 3) := by decide +kernel
theorem dX9_tilt_52 : decode cX9_tilt 52 = .ok (.aload_n 0, 1) := by decide +kernel
theorem dX9_tilt_53 : decode cX9_tilt 53 = .ok (.getfield 12, 3) := by decide +kernel
theorem dX9_tilt_56 : decode cX9_tilt 56 = .ok (.getfield 113, 3) := by decide +kernel
theorem dX9_tilt_59 : decode cX9_tilt 59 = .ok (.iload_n 1, 1) := by decide +kernel
theorem dX9_tilt_60 : decode cX9_tilt 60 = .ok (.iload_n 2, 1) := by decide +kernel
theorem dX9_tilt_61 : decode cX9_tilt 61 = .ok (.invokevirtual 96, 3) := by decide +kernel
theorem dX9_tilt_64 : decode cX9_tilt 64 = .ok (.istore 4, 2) := by decide +kernel
theorem dX9_tilt_66 : decode cX9_tilt 66 = .ok (.aload_n 0, 1) := by decide +kernel
theorem dX9_tilt_67 : decode cX9_tilt 67 = .ok (.getfield 12, 3) := by decide +kernel
theorem dX9_tilt_70 : decode cX9_tilt 70 = .ok (.iload_n 1, 1) := by decide +kernel
theorem dX9_tilt_71 : decode cX9_tilt 71 = .ok (.iload_n 2, 1) := by decide +kernel
theorem dX9_tilt_72 : decode cX9_tilt 72 = .ok (.iload_n 3, 1) := by decide +kernel
theorem dX9_tilt_73 : decode cX9_tilt 73 = .ok (.invokevirtual 116, 3) := by decide +kernel
theorem dX9_tilt_76 : decode cX9_tilt 76 = .ok (.iload 4, 2) := by decide +kernel
theorem dX9_tilt_78 : decode cX9_tilt 78 = .ok (.ireturn, 1) := by decide +kernel
theorem dX9_tiltAll_0 : decode cX9_tiltAll 0 = .ok (.iload_n 1, 1) := by decide +kernel
theorem dX9_tiltAll_1 : decode cX9_tiltAll 1 = .ok (.iconst 0, 1) := by decide +kernel
theorem dX9_tiltAll_2 : decode cX9_tiltAll 2 = .ok (.bipush 9, 2) := by decide +kernel
theorem dX9_tiltAll_4 : decode cX9_tiltAll 4 = .ok (.invokestatic 89, 3) := by decide +kernel
theorem dX9_tiltAll_7 : decode cX9_tiltAll 7 = .ok (.aload_n 0, 1) := by decide +kernel
theorem dX9_tiltAll_8 : decode cX9_tiltAll 8 = .ok (.getfield 19, 3) := by decide +kernel
theorem dX9_tiltAll_11 : decode cX9_tiltAll 11 = .ok (.aload_n 0, 1) := by decide +kernel
theorem dX9_tiltAll_12 : decode cX9_tiltAll 12 = .ok (.getfield 12, 3) := by decide +kernel
theorem dX9_tiltAll_15 : decode cX9_tiltAll 15 = .ok (.invokevirtual 67, 3) := by decide +kernel
theorem dX9_tiltAll_18 : decode cX9_tiltAll 18 = .ok (.aload_n 0, 1) := by decide +kernel
theorem dX9_tiltAll_19 : decode cX9_tiltAll 19 = .ok (.getfield 12, 3) := by decide +kernel
theorem dX9_tiltAll_22 : decode cX9_tiltAll 22 = .ok (.iload_n 1, 1) := by decide +kernel
theorem dX9_tiltAll_23 : decode cX9_tiltAll 23 = .ok (.invokevirtual 119, 3) := by decide +kernel
theorem dX9_tiltAll_26 : decode cX9_tiltAll 26 = .ok (.aload_n 0, 1) := by decide +kernel
theorem dX9_tiltAll_27 : decode cX9_tiltAll 27 = .ok (.getfield 12, 3) := by decide +kernel
theorem dX9_tiltAll_30 : decode cX9_tiltAll 30 = .ok (.invokevirtual 122, 3) := by decide +kernel
theorem dX9_tiltAll_33 : decode cX9_tiltAll 33 = .ok (.ireturn, 1) := by decide +kernel
theorem dX9_limit_0 : decode cX9_limit 0 = .ok (.iload_n 1, 1) := by decide +kernel
theorem dX9_limit_1 : decode cX9_limit 1 = .ok (.iconst 0, 1) := by decide +kernel
theorem dX9_limit_2 : decode cX9_limit 2 = .ok (.bipush 99, 2) := by decide +kernel
theorem dX9_limit_4 : decode cX9_limit 4 = .ok (.invokestatic 89, 3) := by decide +kernel
theorem dX9_limit_7 : decode cX9_limit 7 = .ok (.aload_n 0, 1) := by decide +kernel
theorem dX9_limit_8 : decode cX9_limit 8 = .ok (.getfield 19, 3) := by decide +kernel
theorem dX9_limit_11 : decode cX9_limit 11 = .ok (.aload_n 0, 1) := by decide +kernel
theorem dX9_limit_12 : decode cX9_limit 12 = .ok (.getfield 12, 3) := by decide +kernel
theorem dX9_limit_15 : decode cX9_limit 15 = .ok (.invokevirtual 67, 3) := by decide +kernel
theorem dX9_limit_18 : decode cX9_limit 18 = .ok (.aload_n 0, 1) := by decide +kernel
theorem dX9_limit_19 : decode cX9_limit 19 = .ok (.getfield 12, 3) := by decide +kernel
theorem dX9_limit_22 : decode cX9_limit 22 = .ok (.getfield 125, 3) := by decide +kernel
theorem dX9_limit_25 : decode cX9_limit 25 = .ok (.istore_n 2, 1) := by decide +kernel
theorem dX9_limit_26 : decode cX9_limit 26 = .ok (.aload_n 0, 1) := by decide +kernel
theorem dX9_limit_27 : decode cX9_limit 27 = .ok (.getfield 12, 3) := by decide +kernel
theorem dX9_limit_30 : decode cX9_limit 30 = .ok (.iload_n 1, 1) := by decide +kernel
theorem dX9_limit_31 : decode cX9_limit 31 = .ok (.invokevirtual 128, 3) := by decide +kernel
theorem dX9_limit_34 : decode cX9_limit 34 = .ok (.iload_n 2, 1) := by decide +kernel
theorem dX9_limit_35 : decode cX9_limit 35 = .ok (.ireturn, 1) := by decide +kernel
theorem dX9_seed_0 : decode cX9_seed 0 = .ok (.iload_n 1, 1) := by decide +kernel
theorem dX9_seed_1 : decode cX9_seed 1 = .ok (.ifCond .ge 13, 3) := by decide +kernel
theorem dX9_seed_4 : decode cX9_seed 4 = .ok (.new 51, 3) := by decide +kernel
theorem dX9_seed_7 : decode cX9_seed 7 = .ok (.dup, 1) := by decide +kernel
theorem dX9_seed_8 : decode cX9_seed 8 = .ok (.ldc 131, 2) := by decide +kernel
theorem dX9_seed_10 : decode cX9_seed 10 = .ok (.invokespecial 55, 3) := by decide +kernel
theorem dX9_seed_13 : decode cX9_seed 13 = .ok (.athrow, 1) := by decide +kernel
theorem dX9_seed_14 : decode cX9_seed 14 = .ok (.aload_n 0, 1) := by decide +kernel
theorem dX9_seed_15 : decode cX9_seed 15 = .ok (.getfield 19, 3) := by decide +kernel
theorem dX9_seed_18 : decode cX9_seed 18 = .ok (.aload_n 0, 1) := by decide +kernel
theorem dX9_seed_19 : decode cX9_seed 19 = .ok (.getfield 12, 3) := by decide +kernel
theorem dX9_seed_22 : decode cX9_seed 22 = .ok (.invokevirtual 67, 3) := by decide +kernel
theorem dX9_seed_25 : decode cX9_seed 25 = .ok (.aload_n 0, 1) := by decide +kernel
theorem dX9_seed_26 : decode cX9_seed 26 = .ok (.getfield 12, 3) := by decide +kernel
theorem dX9_seed_29 : decode cX9_seed 29 = .ok (.getfield 133, 3) := by decide +kernel
theorem dX9_seed_32 : decode cX9_seed 32 = .ok (.istore_n 2, 1) := by decide +kernel
theorem dX9_seed_33 : decode cX9_seed 33 = .ok (.aload_n 0, 1) := by decide +kernel
theorem dX9_seed_34 : decode cX9_seed 34 = .ok (.getfield 12, 3) := by decide +kernel
theorem dX9_seed_37 : decode cX9_seed 37 = .ok (.iload_n 1, 1) := by decide +kernel
theorem dX9_seed_38 : decode cX9_seed 38 = .ok (.putfield 133, 3) := by decide +kernel
theorem dX9_seed_41 : decode cX9_seed 41 = .ok (.iload_n 2, 1) := by decide +kernel
theorem dX9_seed_42 : decode cX9_seed 42 = .ok (.ireturn, 1) := by decide +kernel
theorem dX9_draw_0 : decode cX9_draw 0 = .ok (.iload_n 1, 1) := by decide +kernel
theorem dX9_draw_1 : decode cX9_draw 1 = .ok (.iconst 1, 1) := by decide +kernel
theorem dX9_draw_2 : decode cX9_draw 2 = .ok (.bipush 64, 2) := by decide +kernel
theorem dX9_draw_4 : decode cX9_draw 4 = .ok (.invokestatic 89, 3) := by decide +kernel
theorem dX9_draw_7 : decode cX9_draw 7 = .ok (.aload_n 0, 1) := by decide +kernel
theorem dX9_draw_8 : decode cX9_draw 8 = .ok (.getfield 12, 3) := by decide +kernel
theorem dX9_draw_11 : decode cX9_draw 11 = .ok (.getfield 136, 3) := by decide +kernel
theorem dX9_draw_14 : decode cX9_draw 14 = .ok (.getfield 140, 3) := by decide +kernel
theorem dX9_draw_17 : decode cX9_draw 17 = .ok (.iload_n 1, 1) := by decide +kernel
theorem dX9_draw_18 : decode cX9_draw 18 = .ok (.iadd, 1) := by decide +kernel
theorem dX9_draw_19 : decode cX9_draw 19 = .ok (.sipush 9999, 3) := by decide +kernel
theorem dX9_draw_22 : decode cX9_draw 22 = .ok (.if_icmp .le 13, 3) := by decide +kernel
theorem dX9_draw_25 : decode cX9_draw 25 = .ok (.new 62, 3) := by decide +kernel
theorem dX9_draw_28 : decode cX9_draw 28 = .ok (.dup, 1) := by decide +kernel
theorem dX9_draw_29 : decode cX9_draw 29 = .ok (.ldc 145, 2) := by decide +kernel
theorem dX9_draw_31 : decode cX9_draw 31 = .ok (.invokespecial 66, 3) := by decide +kernel
theorem dX9_draw_34 : decode cX9_draw 34 = .ok (.athrow, 1) := by decide +kernel
theorem dX9_draw_35 : decode cX9_draw 35 = .ok (.aload_n 0, 1) := by decide +kernel
theorem dX9_draw_36 : decode cX9_draw 36 = .ok (.getfield 19, 3) := by decide +kernel
theorem dX9_draw_39 : decode cX9_draw 39 = .ok (.aload_n 0, 1) := by decide +kernel
theorem dX9_draw_40 : decode cX9_draw 40 = .ok (.getfield 12, 3) := by decide +kernel
theorem dX9_draw_43 : decode cX9_draw 43 = .ok (.invokevirtual 67, 3) := by decide +kernel
theorem dX9_draw_46 : decode cX9_draw 46 = .ok (.aload_n 0, 1) := by decide +kernel
theorem dX9_draw_47 : decode cX9_draw 47 = .ok (.getfield 12, 3) := by decide +kernel
theorem dX9_draw_50 : decode cX9_draw 50 = .ok (.getfield 136, 3) := by decide +kernel
theorem dX9_draw_53 : decode cX9_draw 53 = .ok (.getfield 147, 3) := by decide +kernel
theorem dX9_draw_56 : decode cX9_draw 56 = .ok (.istore_n 2, 1) := by decide +kernel
theorem dX9_draw_57 : decode cX9_draw 57 = .ok (.iconst 0, 1) := by decide +kernel
theorem dX9_draw_58 : decode cX9_draw 58 = .ok (.istore_n 3, 1) := by decide +kernel
theorem dX9_draw_59 : decode cX9_draw 59 = .ok (.iload_n 3, 1) := by decide +kernel
theorem dX9_draw_60 : decode cX9_draw 60 = .ok (.iload_n 1, 1) := by decide +kernel
theorem dX9_draw_61 : decode cX9_draw 61 = .ok (.if_icmp .ge 16, 3) := by decide +kernel
theorem dX9_draw_64 : decode cX9_draw 64 = .ok (.aload_n 0, 1) := by decide +kernel
theorem dX9_draw_65 : decode cX9_draw 65 = .ok (.getfield 12, 3) := by decide +kernel
theorem dX9_draw_68 : decode cX9_draw 68 = .ok (.invokevirtual 150, 3) := by decide +kernel
theorem dX9_draw_71 : decode cX9_draw 71 = .ok (.iinc 3 1, 3) := by decide +kernel
theorem dX9_draw_74 : decode cX9_draw 74 = .ok (.goto (-15), 3) := by decide +kernel
theorem dX9_draw_77 : decode cX9_draw 77 = .ok (.aload_n 0, 1) := by decide +kernel
theorem dX9_draw_78 : decode cX9_draw 78 = .ok (.getfield 12, 3) := by decide +kernel
theorem dX9_draw_81 : decode cX9_draw 81 = .ok (.getfield 136, 3) := by decide +kernel
theorem dX9_draw_84 : decode cX9_draw 84 = .ok (.getfield 147, 3) := by decide +kernel
theorem dX9_draw_87 : decode cX9_draw 87 = .ok (.iload_n 2, 1) := by decide +kernel
theorem dX9_draw_88 : decode cX9_draw 88 = .ok (.isub, 1) := by decide +kernel
theorem dX9_draw_89 : decode cX9_draw 89 = .ok (.ireturn, 1) := by decide +kernel
theorem dX9_part_0 : decode cX9_part 0 = .ok (.aload_n 0, 1) := by decide +kernel
theorem dX9_part_1 : decode cX9_part 1 = .ok (.iload_n 1, 1) := by decide +kernel
theorem dX9_part_2 : decode cX9_part 2 = .ok (.invokevirtual 79, 3) := by decide +kernel
theorem dX9_part_5 : decode cX9_part 5 = .ok (.iload_n 2, 1) := by decide +kernel
theorem dX9_part_6 : decode cX9_part 6 = .ok (.iconst 0, 1) := by decide +kernel
theorem dX9_part_7 : decode cX9_part 7 = .ok (.bipush 6, 2) := by decide +kernel
theorem dX9_part_9 : decode cX9_part 9 = .ok (.invokestatic 89, 3) := by decide +kernel
theorem dX9_part_12 : decode cX9_part 12 = .ok (.iload_n 2, 1) := by decide +kernel
theorem dX9_part_13 : decode cX9_part 13 = .ok (.tableswitch 111 0 5 #[39, 51, 63, 75, 87, 99], 39) := by decide +kernel
theorem dX9_part_52 : decode cX9_part 52 = .ok (.aload_n 0, 1) := by decide +kernel
theorem dX9_part_53 : decode cX9_part 53 = .ok (.getfield 12, 3) := by decide +kernel
theorem dX9_part_56 : decode cX9_part 56 = .ok (.getfield 92, 3) := by decide +kernel
theorem dX9_part_59 : decode cX9_part 59 = .ok (.iload_n 1, 1) := by decide +kernel
theorem dX9_part_60 : decode cX9_part 60 = .ok (.invokevirtual 102, 3) := by decide +kernel
theorem dX9_part_63 : decode cX9_part 63 = .ok (.ireturn, 1) := by decide +kernel
theorem dX9_part_64 : decode cX9_part 64 = .ok (.aload_n 0, 1) := by decide +kernel
theorem dX9_part_65 : decode cX9_part 65 = .ok (.getfield 12, 3) := by decide +kernel
theorem dX9_part_68 : decode cX9_part 68 = .ok (.getfield 113, 3) := by decide +kernel
theorem dX9_part_71 : decode cX9_part 71 = .ok (.iload_n 1, 1) := by decide +kernel
theorem dX9_part_72 : decode cX9_part 72 = .ok (.invokevirtual 102, 3) := by decide +kernel
theorem dX9_part_75 : decode cX9_part 75 = .ok (.ireturn, 1) := by decide +kernel
theorem dX9_part_76 : decode cX9_part 76 = .ok (.aload_n 0, 1) := by decide +kernel
theorem dX9_part_77 : decode cX9_part 77 = .ok (.getfield 12, 3) := by decide +kernel
theorem dX9_part_80 : decode cX9_part 80 = .ok (.getfield 92, 3) := by decide +kernel
theorem dX9_part_83 : decode cX9_part 83 = .ok (.iload_n 1, 1) := by decide +kernel
theorem dX9_part_84 : decode cX9_part 84 = .ok (.invokevirtual 190, 3) := by decide +kernel
theorem dX9_part_87 : decode cX9_part 87 = .ok (.ireturn, 1) := by decide +kernel
theorem dX9_part_88 : decode cX9_part 88 = .ok (.aload_n 0, 1) := by decide +kernel
theorem dX9_part_89 : decode cX9_part 89 = .ok (.getfield 12, 3) := by decide +kernel
theorem dX9_part_92 : decode cX9_part 92 = .ok (.getfield 92, 3) := by decide +kernel
theorem dX9_part_95 : decode cX9_part 95 = .ok (.iload_n 1, 1) := by decide +kernel
theorem dX9_part_96 : decode cX9_part 96 = .ok (.invokevirtual 193, 3) := by decide +kernel
theorem dX9_part_99 : decode cX9_part 99 = .ok (.ireturn, 1) := by decide +kernel
theorem dX9_part_100 : decode cX9_part 100 = .ok (.aload_n 0, 1) := by decide +kernel
theorem dX9_part_101 : decode cX9_part 101 = .ok (.getfield 12, 3) := by decide +kernel
theorem dX9_part_104 : decode cX9_part 104 = .ok (.getfield 92, 3) := by decide +kernel
theorem dX9_part_107 : decode cX9_part 107 = .ok (.iload_n 1, 1) := by decide +kernel
theorem dX9_part_108 : decode cX9_part 108 = .ok (.invokevirtual 196, 3) := by decide +kernel
theorem dX9_part_111 : decode cX9_part 111 = .ok (.ireturn, 1) := by decide +kernel
theorem dX9_part_112 : decode cX9_part 112 = .ok (.aload_n 0, 1) := by decide +kernel
theorem dX9_part_113 : decode cX9_part 113 = .ok (.getfield 12, 3) := by decide +kernel
theorem dX9_part_116 : decode cX9_part 116 = .ok (.getfield 113, 3) := by decide +kernel
theorem dX9_part_119 : decode cX9_part 119 = .ok (.iload_n 1, 1) := by decide +kernel
theorem dX9_part_120 : decode cX9_part 120 = .ok (.invokevirtual 196, 3) := by decide +kernel
theorem dX9_part_123 : decode cX9_part 123 = .ok (.ireturn, 1) := by decide +kernel
theorem dX9_part_124 : decode cX9_part 124 = .ok (.aload_n 0, 1) := by decide +kernel
theorem dX9_part_125 : decode cX9_part 125 = .ok (.getfield 12, 3) := by decide +kernel
theorem dX9_part_128 : decode cX9_part 128 = .ok (.getfield 136, 3) := by decide +kernel
theorem dX9_part_131 : decode cX9_part 131 = .ok (.iload_n 1, 1) := by decide +kernel
theorem dX9_part_132 : decode cX9_part 132 = .ok (.invokevirtual 199, 3) := by decide +kernel
theorem dX9_part_135 : decode cX9_part 135 = .ok (.ireturn, 1) := by decide +kernel
theorem dX9_weight_0 : decode cX9_weight 0 = .ok (.aload_n 0, 1) := by decide +kernel
theorem dX9_weight_1 : decode cX9_weight 1 = .ok (.iload_n 1, 1) := by decide +kernel
theorem dX9_weight_2 : decode cX9_weight 2 = .ok (.invokevirtual 79, 3) := by decide +kernel
theorem dX9_weight_5 : decode cX9_weight 5 = .ok (.iload_n 2, 1) := by decide +kernel
theorem dX9_weight_6 : decode cX9_weight 6 = .ok (.invokestatic 86, 3) := by decide +kernel
theorem dX9_weight_9 : decode cX9_weight 9 = .ok (.iload_n 3, 1) := by decide +kernel
theorem dX9_weight_10 : decode cX9_weight 10 = .ok (.ifCond .eq 18, 3) := by decide +kernel
theorem dX9_weight_13 : decode cX9_weight 13 = .ok (.aload_n 0, 1) := by decide +kernel
theorem dX9_weight_14 : decode cX9_weight 14 = .ok (.getfield 12, 3) := by decide +kernel
theorem dX9_weight_17 : decode cX9_weight 17 = .ok (.getfield 113, 3) := by decide +kernel
theorem dX9_weight_20 : decode cX9_weight 20 = .ok (.iload_n 1, 1) := by decide +kernel
theorem dX9_weight_21 : decode cX9_weight 21 = .ok (.iload_n 2, 1) := by decide +kernel
theorem dX9_weight_22 : decode cX9_weight 22 = .ok (.invokevirtual 96, 3) := by decide +kernel
theorem dX9_weight_25 : decode cX9_weight 25 = .ok (.goto 15, 3) := by decide +kernel
theorem dX9_weight_28 : decode cX9_weight 28 = .ok (.aload_n 0, 1) := by decide +kernel
theorem dX9_weight_29 : decode cX9_weight 29 = .ok (.getfield 12, 3) := by decide +kernel
theorem dX9_weight_32 : decode cX9_weight 32 = .ok (.getfield 92, 3) := by decide +kernel
theorem dX9_weight_35 : decode cX9_weight 35 = .ok (.iload_n 1, 1) := by decide +kernel
theorem dX9_weight_36 : decode cX9_weight 36 = .ok (.iload_n 2, 1) := by decide +kernel
theorem dX9_weight_37 : decode cX9_weight 37 = .ok (.invokevirtual 96, 3) := by decide +kernel
theorem dX9_weight_40 : decode cX9_weight 40 = .ok (.ireturn, 1) := by decide +kernel
theorem dX9_ways_0 : decode cX9_ways 0 = .ok (.iload_n 1, 1) := by decide +kernel
theorem dX9_ways_1 : decode cX9_ways 1 = .ok (.iconst 0, 1) := by decide +kernel
theorem dX9_ways_2 : decode cX9_ways 2 = .ok (.bipush 99, 2) := by decide +kernel
theorem dX9_ways_4 : decode cX9_ways 4 = .ok (.invokestatic 89, 3) := by decide +kernel
theorem dX9_ways_7 : decode cX9_ways 7 = .ok (.aload_n 0, 1) := by decide +kernel
theorem dX9_ways_8 : decode cX9_ways 8 = .ok (.getfield 33, 3) := by decide +kernel
theorem dX9_ways_11 : decode cX9_ways 11 = .ok (.aload_n 0, 1) := by decide +kernel
theorem dX9_ways_12 : decode cX9_ways 12 = .ok (.getfield 12, 3) := by decide +kernel
theorem dX9_ways_15 : decode cX9_ways 15 = .ok (.iconst (-1), 1) := by decide +kernel
theorem dX9_ways_16 : decode cX9_ways 16 = .ok (.invokevirtual 202, 3) := by decide +kernel
theorem dX9_ways_19 : decode cX9_ways 19 = .ok (.iload_n 2, 1) := by decide +kernel
theorem dX9_ways_20 : decode cX9_ways 20 = .ok (.ifCond .eq 14, 3) := by decide +kernel
theorem dX9_ways_23 : decode cX9_ways 23 = .ok (.aload_n 0, 1) := by decide +kernel
theorem dX9_ways_24 : decode cX9_ways 24 = .ok (.getfield 33, 3) := by decide +kernel
theorem dX9_ways_27 : decode cX9_ways 27 = .ok (.iload_n 1, 1) := by decide +kernel
theorem dX9_ways_28 : decode cX9_ways 28 = .ok (.invokevirtual 206, 3) := by decide +kernel
theorem dX9_ways_31 : decode cX9_ways 31 = .ok (.goto 11, 3) := by decide +kernel
theorem dX9_ways_34 : decode cX9_ways 34 = .ok (.aload_n 0, 1) := by decide +kernel
theorem dX9_ways_35 : decode cX9_ways 35 = .ok (.getfield 33, 3) := by decide +kernel
theorem dX9_ways_38 : decode cX9_ways 38 = .ok (.iload_n 1, 1) := by decide +kernel
theorem dX9_ways_39 : decode cX9_ways 39 = .ok (.invokevirtual 210, 3) := by decide +kernel
theorem dX9_ways_42 : decode cX9_ways 42 = .ok (.lreturn, 1) := by decide +kernel
theorem dX9_likeliest_0 : decode cX9_likeliest 0 = .ok (.aload_n 0, 1) := by decide +kernel
theorem dX9_likeliest_1 : decode cX9_likeliest 1 = .ok (.iload_n 1, 1) := by decide +kernel
theorem dX9_likeliest_2 : decode cX9_likeliest 2 = .ok (.invokevirtual 79, 3) := by decide +kernel
theorem dX9_likeliest_5 : decode cX9_likeliest 5 = .ok (.aload_n 0, 1) := by decide +kernel
theorem dX9_likeliest_6 : decode cX9_likeliest 6 = .ok (.getfield 40, 3) := by decide +kernel
theorem dX9_likeliest_9 : decode cX9_likeliest 9 = .ok (.aload_n 0, 1) := by decide +kernel
theorem dX9_likeliest_10 : decode cX9_likeliest 10 = .ok (.getfield 12, 3) := by decide +kernel
theorem dX9_likeliest_13 : decode cX9_likeliest 13 = .ok (.invokevirtual 213, 3) := by decide +kernel
theorem dX9_likeliest_16 : decode cX9_likeliest 16 = .ok (.aload_n 0, 1) := by decide +kernel
theorem dX9_likeliest_17 : decode cX9_likeliest 17 = .ok (.getfield 40, 3) := by decide +kernel
theorem dX9_likeliest_20 : decode cX9_likeliest 20 = .ok (.aload_n 0, 1) := by decide +kernel
theorem dX9_likeliest_21 : decode cX9_likeliest 21 = .ok (.getfield 12, 3) := by decide +kernel
theorem dX9_likeliest_24 : decode cX9_likeliest 24 = .ok (.iload_n 1, 1) := by decide +kernel
theorem dX9_likeliest_25 : decode cX9_likeliest 25 = .ok (.invokevirtual 215, 3) := by decide +kernel
theorem dX9_likeliest_28 : decode cX9_likeliest 28 = .ok (.ireturn, 1) := by decide +kernel
theorem dX9_count_0 : decode cX9_count 0 = .ok (.iload_n 1, 1) := by decide +kernel
theorem dX9_count_1 : decode cX9_count 1 = .ok (.iconst 0, 1) := by decide +kernel
theorem dX9_count_2 : decode cX9_count 2 = .ok (.bipush 8, 2) := by decide +kernel
theorem dX9_count_4 : decode cX9_count 4 = .ok (.invokestatic 89, 3) := by decide +kernel
theorem dX9_count_7 : decode cX9_count 7 = .ok (.iload_n 1, 1) := by decide +kernel
theorem dX9_count_8 : decode cX9_count 8 = .ok (.tableswitch 136 0 7 #[48, 56, 64, 72, 83, 94, 102, 110], 48) := by decide +kernel
theorem dX9_count_56 : decode cX9_count 56 = .ok (.aload_n 0, 1) := by decide +kernel
theorem dX9_count_57 : decode cX9_count 57 = .ok (.getfield 12, 3) := by decide +kernel
theorem dX9_count_60 : decode cX9_count 60 = .ok (.getfield 58, 3) := by decide +kernel
theorem dX9_count_63 : decode cX9_count 63 = .ok (.ireturn, 1) := by decide +kernel
theorem dX9_count_64 : decode cX9_count 64 = .ok (.aload_n 0, 1) := by decide +kernel
theorem dX9_count_65 : decode cX9_count 65 = .ok (.getfield 12, 3) := by decide +kernel
theorem dX9_count_68 : decode cX9_count 68 = .ok (.getfield 125, 3) := by decide +kernel
theorem dX9_count_71 : decode cX9_count 71 = .ok (.ireturn, 1) := by decide +kernel
theorem dX9_count_72 : decode cX9_count 72 = .ok (.aload_n 0, 1) := by decide +kernel
theorem dX9_count_73 : decode cX9_count 73 = .ok (.getfield 12, 3) := by decide +kernel
theorem dX9_count_76 : decode cX9_count 76 = .ok (.getfield 133, 3) := by decide +kernel
theorem dX9_count_79 : decode cX9_count 79 = .ok (.ireturn, 1) := by decide +kernel
theorem dX9_count_80 : decode cX9_count 80 = .ok (.aload_n 0, 1) := by decide +kernel
theorem dX9_count_81 : decode cX9_count 81 = .ok (.getfield 12, 3) := by decide +kernel
theorem dX9_count_84 : decode cX9_count 84 = .ok (.getfield 136, 3) := by decide +kernel
theorem dX9_count_87 : decode cX9_count 87 = .ok (.getfield 140, 3) := by decide +kernel
theorem dX9_count_90 : decode cX9_count 90 = .ok (.ireturn, 1) := by decide +kernel
theorem dX9_count_91 : decode cX9_count 91 = .ok (.aload_n 0, 1) := by decide +kernel
theorem dX9_count_92 : decode cX9_count 92 = .ok (.getfield 12, 3) := by decide +kernel
theorem dX9_count_95 : decode cX9_count 95 = .ok (.getfield 136, 3) := by decide +kernel
theorem dX9_count_98 : decode cX9_count 98 = .ok (.getfield 147, 3) := by decide +kernel
theorem dX9_count_101 : decode cX9_count 101 = .ok (.ireturn, 1) := by decide +kernel
theorem dX9_count_102 : decode cX9_count 102 = .ok (.aload_n 0, 1) := by decide +kernel
theorem dX9_count_103 : decode cX9_count 103 = .ok (.getfield 12, 3) := by decide +kernel
theorem dX9_count_106 : decode cX9_count 106 = .ok (.invokevirtual 219, 3) := by decide +kernel
theorem dX9_count_109 : decode cX9_count 109 = .ok (.ireturn, 1) := by decide +kernel
theorem dX9_count_110 : decode cX9_count 110 = .ok (.aload_n 0, 1) := by decide +kernel
theorem dX9_count_111 : decode cX9_count 111 = .ok (.getfield 12, 3) := by decide +kernel
theorem dX9_count_114 : decode cX9_count 114 = .ok (.invokevirtual 222, 3) := by decide +kernel
theorem dX9_count_117 : decode cX9_count 117 = .ok (.ireturn, 1) := by decide +kernel
theorem dX9_count_118 : decode cX9_count 118 = .ok (.aload_n 0, 1) := by decide +kernel
theorem dX9_count_119 : decode cX9_count 119 = .ok (.getfield 40, 3) := by decide +kernel
theorem dX9_count_122 : decode cX9_count 122 = .ok (.aload_n 0, 1) := by decide +kernel
theorem dX9_count_123 : decode cX9_count 123 = .ok (.getfield 12, 3) := by decide +kernel
theorem dX9_count_126 : decode cX9_count 126 = .ok (.invokevirtual 213, 3) := by decide +kernel
theorem dX9_count_129 : decode cX9_count 129 = .ok (.aload_n 0, 1) := by decide +kernel
theorem dX9_count_130 : decode cX9_count 130 = .ok (.getfield 40, 3) := by decide +kernel
theorem dX9_count_133 : decode cX9_count 133 = .ok (.aload_n 0, 1) := by decide +kernel
theorem dX9_count_134 : decode cX9_count 134 = .ok (.getfield 12, 3) := by decide +kernel
theorem dX9_count_137 : decode cX9_count 137 = .ok (.getfield 125, 3) := by decide +kernel
theorem dX9_count_140 : decode cX9_count 140 = .ok (.invokevirtual 225, 3) := by decide +kernel
theorem dX9_count_143 : decode cX9_count 143 = .ok (.ireturn, 1) := by decide +kernel
theorem dX9_count_144 : decode cX9_count 144 = .ok (.aload_n 0, 1) := by decide +kernel
theorem dX9_count_145 : decode cX9_count 145 = .ok (.getfield 19, 3) := by decide +kernel
theorem dX9_count_148 : decode cX9_count 148 = .ok (.getfield 184, 3) := by decide +kernel
theorem dX9_count_151 : decode cX9_count 151 = .ok (.ireturn, 1) := by decide +kernel
theorem dX9_measure_0 : decode cX9_measure 0 = .ok (.iload_n 1, 1) := by decide +kernel
theorem dX9_measure_1 : decode cX9_measure 1 = .ok (.iconst 0, 1) := by decide +kernel
theorem dX9_measure_2 : decode cX9_measure 2 = .ok (.bipush 6, 2) := by decide +kernel
theorem dX9_measure_4 : decode cX9_measure 4 = .ok (.invokestatic 89, 3) := by decide +kernel
theorem dX9_measure_7 : decode cX9_measure 7 = .ok (.aload_n 0, 1) := by decide +kernel
theorem dX9_measure_8 : decode cX9_measure 8 = .ok (.getfield 12, 3) := by decide +kernel
theorem dX9_measure_11 : decode cX9_measure 11 = .ok (.getfield 136, 3) := by decide +kernel
theorem dX9_measure_14 : decode cX9_measure 14 = .ok (.astore_n 2, 1) := by decide +kernel
theorem dX9_measure_15 : decode cX9_measure 15 = .ok (.iload_n 1, 1) := by decide +kernel
theorem dX9_measure_16 : decode cX9_measure 16 = .ok (.tableswitch 91 0 5 #[40, 53, 62, 72, 81, 86], 40) := by decide +kernel
theorem dX9_measure_56 : decode cX9_measure 56 = .ok (.aload_n 0, 1) := by decide +kernel
theorem dX9_measure_57 : decode cX9_measure 57 = .ok (.aload_n 0, 1) := by decide +kernel
theorem dX9_measure_58 : decode cX9_measure 58 = .ok (.getfield 12, 3) := by decide +kernel
theorem dX9_measure_61 : decode cX9_measure 61 = .ok (.getfield 125, 3) := by decide +kernel
theorem dX9_measure_64 : decode cX9_measure 64 = .ok (.iconst (-1), 1) := by decide +kernel
theorem dX9_measure_65 : decode cX9_measure 65 = .ok (.invokevirtual 228, 3) := by decide +kernel
theorem dX9_measure_68 : decode cX9_measure 68 = .ok (.dreturn, 1) := by decide +kernel
theorem dX9_measure_69 : decode cX9_measure 69 = .ok (.aload_n 2, 1) := by decide +kernel
theorem dX9_measure_70 : decode cX9_measure 70 = .ok (.aload_n 2, 1) := by decide +kernel
theorem dX9_measure_71 : decode cX9_measure 71 = .ok (.getfield 232, 3) := by decide +kernel
theorem dX9_measure_74 : decode cX9_measure 74 = .ok (.invokevirtual 236, 3) := by decide +kernel
theorem dX9_measure_77 : decode cX9_measure 77 = .ok (.dreturn, 1) := by decide +kernel
theorem dX9_measure_78 : decode cX9_measure 78 = .ok (.aload_n 2, 1) := by decide +kernel
theorem dX9_measure_79 : decode cX9_measure 79 = .ok (.aload_n 2, 1) := by decide +kernel
theorem dX9_measure_80 : decode cX9_measure 80 = .ok (.getfield 147, 3) := by decide +kernel
theorem dX9_measure_83 : decode cX9_measure 83 = .ok (.i2d, 1) := by decide +kernel
theorem dX9_measure_84 : decode cX9_measure 84 = .ok (.invokevirtual 236, 3) := by decide +kernel
theorem dX9_measure_87 : decode cX9_measure 87 = .ok (.dreturn, 1) := by decide +kernel
theorem dX9_measure_88 : decode cX9_measure 88 = .ok (.aload_n 2, 1) := by decide +kernel
theorem dX9_measure_89 : decode cX9_measure 89 = .ok (.aload_n 2, 1) := by decide +kernel
theorem dX9_measure_90 : decode cX9_measure 90 = .ok (.getfield 240, 3) := by decide +kernel
theorem dX9_measure_93 : decode cX9_measure 93 = .ok (.invokevirtual 236, 3) := by decide +kernel
theorem dX9_measure_96 : decode cX9_measure 96 = .ok (.dreturn, 1) := by decide +kernel
theorem dX9_measure_97 : decode cX9_measure 97 = .ok (.aload_n 2, 1) := by decide +kernel
theorem dX9_measure_98 : decode cX9_measure 98 = .ok (.invokevirtual 243, 3) := by decide +kernel
theorem dX9_measure_101 : decode cX9_measure 101 = .ok (.dreturn, 1) := by decide +kernel
theorem dX9_measure_102 : decode cX9_measure 102 = .ok (.aload_n 2, 1) := by decide +kernel
theorem dX9_measure_103 : decode cX9_measure 103 = .ok (.getfield 247, 3) := by decide +kernel
theorem dX9_measure_106 : decode cX9_measure 106 = .ok (.dreturn, 1) := by decide +kernel
theorem dX9_measure_107 : decode cX9_measure 107 = .ok (.aload_n 2, 1) := by decide +kernel
theorem dX9_measure_108 : decode cX9_measure 108 = .ok (.aload_n 2, 1) := by decide +kernel
theorem dX9_measure_109 : decode cX9_measure 109 = .ok (.getfield 232, 3) := by decide +kernel
theorem dX9_measure_112 : decode cX9_measure 112 = .ok (.invokevirtual 236, 3) := by decide +kernel
theorem dX9_measure_115 : decode cX9_measure 115 = .ok (.aload_n 0, 1) := by decide +kernel
theorem dX9_measure_116 : decode cX9_measure 116 = .ok (.aload_n 0, 1) := by decide +kernel
theorem dX9_measure_117 : decode cX9_measure 117 = .ok (.getfield 12, 3) := by decide +kernel
theorem dX9_measure_120 : decode cX9_measure 120 = .ok (.getfield 125, 3) := by decide +kernel
theorem dX9_measure_123 : decode cX9_measure 123 = .ok (.iconst (-1), 1) := by decide +kernel
theorem dX9_measure_124 : decode cX9_measure 124 = .ok (.invokevirtual 228, 3) := by decide +kernel
theorem dX9_measure_127 : decode cX9_measure 127 = .ok (.dsub, 1) := by decide +kernel
theorem dX9_measure_128 : decode cX9_measure 128 = .ok (.dreturn, 1) := by decide +kernel
theorem dX9_oddsFor_0 : decode cX9_oddsFor 0 = .ok (.aload_n 0, 1) := by decide +kernel
theorem dX9_oddsFor_1 : decode cX9_oddsFor 1 = .ok (.getfield 33, 3) := by decide +kernel
theorem dX9_oddsFor_4 : decode cX9_oddsFor 4 = .ok (.aload_n 0, 1) := by decide +kernel
theorem dX9_oddsFor_5 : decode cX9_oddsFor 5 = .ok (.getfield 12, 3) := by decide +kernel
theorem dX9_oddsFor_8 : decode cX9_oddsFor 8 = .ok (.iload_n 2, 1) := by decide +kernel
theorem dX9_oddsFor_9 : decode cX9_oddsFor 9 = .ok (.invokevirtual 202, 3) := by decide +kernel
theorem dX9_oddsFor_12 : decode cX9_oddsFor 12 = .ok (.aload_n 0, 1) := by decide +kernel
theorem dX9_oddsFor_13 : decode cX9_oddsFor 13 = .ok (.getfield 33, 3) := by decide +kernel
theorem dX9_oddsFor_16 : decode cX9_oddsFor 16 = .ok (.iload_n 1, 1) := by decide +kernel
theorem dX9_oddsFor_17 : decode cX9_oddsFor 17 = .ok (.invokevirtual 315, 3) := by decide +kernel
theorem dX9_oddsFor_20 : decode cX9_oddsFor 20 = .ok (.dreturn, 1) := by decide +kernel
theorem dX9_requirePart_0 : decode cX9_requirePart 0 = .ok (.iload_n 1, 1) := by decide +kernel
theorem dX9_requirePart_1 : decode cX9_requirePart 1 = .ok (.ifCond .lt 14, 3) := by decide +kernel
theorem dX9_requirePart_4 : decode cX9_requirePart 4 = .ok (.iload_n 1, 1) := by decide +kernel
theorem dX9_requirePart_5 : decode cX9_requirePart 5 = .ok (.aload_n 0, 1) := by decide +kernel
theorem dX9_requirePart_6 : decode cX9_requirePart 6 = .ok (.getfield 12, 3) := by decide +kernel
theorem dX9_requirePart_9 : decode cX9_requirePart 9 = .ok (.getfield 58, 3) := by decide +kernel
theorem dX9_requirePart_12 : decode cX9_requirePart 12 = .ok (.if_icmp .lt 14, 3) := by decide +kernel
theorem dX9_requirePart_15 : decode cX9_requirePart 15 = .ok (.new 318, 3) := by decide +kernel
theorem dX9_requirePart_18 : decode cX9_requirePart 18 = .ok (.dup, 1) := by decide +kernel
theorem dX9_requirePart_19 : decode cX9_requirePart 19 = .ok (.ldc_w 320, 3) := by decide +kernel
theorem dX9_requirePart_22 : decode cX9_requirePart 22 = .ok (.invokespecial 322, 3) := by decide +kernel
theorem dX9_requirePart_25 : decode cX9_requirePart 25 = .ok (.athrow, 1) := by decide +kernel
theorem dX9_requirePart_26 : decode cX9_requirePart 26 = .ok (.return_, 1) := by decide +kernel
theorem dX9_requireLoad_0 : decode cX9_requireLoad 0 = .ok (.iload_n 0, 1) := by decide +kernel
theorem dX9_requireLoad_1 : decode cX9_requireLoad 1 = .ok (.ifCond .lt 9, 3) := by decide +kernel
theorem dX9_requireLoad_4 : decode cX9_requireLoad 4 = .ok (.iload_n 0, 1) := by decide +kernel
theorem dX9_requireLoad_5 : decode cX9_requireLoad 5 = .ok (.bipush 6, 2) := by decide +kernel
theorem dX9_requireLoad_7 : decode cX9_requireLoad 7 = .ok (.if_icmp .lt 14, 3) := by decide +kernel
theorem dX9_requireLoad_10 : decode cX9_requireLoad 10 = .ok (.new 318, 3) := by decide +kernel
theorem dX9_requireLoad_13 : decode cX9_requireLoad 13 = .ok (.dup, 1) := by decide +kernel
theorem dX9_requireLoad_14 : decode cX9_requireLoad 14 = .ok (.ldc_w 323, 3) := by decide +kernel
theorem dX9_requireLoad_17 : decode cX9_requireLoad 17 = .ok (.invokespecial 322, 3) := by decide +kernel
theorem dX9_requireLoad_20 : decode cX9_requireLoad 20 = .ok (.athrow, 1) := by decide +kernel
theorem dX9_requireLoad_21 : decode cX9_requireLoad 21 = .ok (.return_, 1) := by decide +kernel
theorem dX9_requireRange_0 : decode cX9_requireRange 0 = .ok (.iload_n 0, 1) := by decide +kernel
theorem dX9_requireRange_1 : decode cX9_requireRange 1 = .ok (.iload_n 1, 1) := by decide +kernel
theorem dX9_requireRange_2 : decode cX9_requireRange 2 = .ok (.if_icmp .lt 8, 3) := by decide +kernel
theorem dX9_requireRange_5 : decode cX9_requireRange 5 = .ok (.iload_n 0, 1) := by decide +kernel
theorem dX9_requireRange_6 : decode cX9_requireRange 6 = .ok (.iload_n 2, 1) := by decide +kernel
theorem dX9_requireRange_7 : decode cX9_requireRange 7 = .ok (.if_icmp .le 14, 3) := by decide +kernel
theorem dX9_requireRange_10 : decode cX9_requireRange 10 = .ok (.new 51, 3) := by decide +kernel
theorem dX9_requireRange_13 : decode cX9_requireRange 13 = .ok (.dup, 1) := by decide +kernel
theorem dX9_requireRange_14 : decode cX9_requireRange 14 = .ok (.ldc_w 325, 3) := by decide +kernel
theorem dX9_requireRange_17 : decode cX9_requireRange 17 = .ok (.invokespecial 55, 3) := by decide +kernel
theorem dX9_requireRange_20 : decode cX9_requireRange 20 = .ok (.athrow, 1) := by decide +kernel
theorem dX9_requireRange_21 : decode cX9_requireRange 21 = .ok (.return_, 1) := by decide +kernel
theorem dJ9_max_7cf53_0 : decode cJ9_max_7cf53 0 = .ok (.iload_n 0, 1) := by decide +kernel
theorem dJ9_max_7cf53_1 : decode cJ9_max_7cf53 1 = .ok (.iload_n 1, 1) := by decide +kernel
theorem dJ9_max_7cf53_2 : decode cJ9_max_7cf53 2 = .ok (.if_icmp .lt 7, 3) := by decide +kernel
theorem dJ9_max_7cf53_5 : decode cJ9_max_7cf53 5 = .ok (.iload_n 0, 1) := by decide +kernel
theorem dJ9_max_7cf53_6 : decode cJ9_max_7cf53 6 = .ok (.goto 4, 3) := by decide +kernel
theorem dJ9_max_7cf53_9 : decode cJ9_max_7cf53 9 = .ok (.iload_n 1, 1) := by decide +kernel
theorem dJ9_max_7cf53_10 : decode cJ9_max_7cf53 10 = .ok (.ireturn, 1) := by decide +kernel
theorem dJ9_min_7cf53_0 : decode cJ9_min_7cf53 0 = .ok (.iload_n 0, 1) := by decide +kernel
theorem dJ9_min_7cf53_1 : decode cJ9_min_7cf53 1 = .ok (.iload_n 1, 1) := by decide +kernel
theorem dJ9_min_7cf53_2 : decode cJ9_min_7cf53 2 = .ok (.if_icmp .gt 7, 3) := by decide +kernel
theorem dJ9_min_7cf53_5 : decode cJ9_min_7cf53 5 = .ok (.iload_n 0, 1) := by decide +kernel
theorem dJ9_min_7cf53_6 : decode cJ9_min_7cf53 6 = .ok (.goto 4, 3) := by decide +kernel
theorem dJ9_min_7cf53_9 : decode cJ9_min_7cf53 9 = .ok (.iload_n 1, 1) := by decide +kernel
theorem dJ9_min_7cf53_10 : decode cJ9_min_7cf53 10 = .ok (.ireturn, 1) := by decide +kernel
theorem dL_cell_0 : decode cL_cell 0 = .ok (.iload_n 1, 1) := by decide +kernel
theorem dL_cell_1 : decode cL_cell 1 = .ok (.aload_n 0, 1) := by decide +kernel
theorem dL_cell_2 : decode cL_cell 2 = .ok (.arraylength, 1) := by decide +kernel
theorem dL_cell_3 : decode cL_cell 3 = .ok (.if_icmp .ge 9, 3) := by decide +kernel
theorem dL_cell_6 : decode cL_cell 6 = .ok (.aload_n 0, 1) := by decide +kernel
theorem dL_cell_7 : decode cL_cell 7 = .ok (.iload_n 1, 1) := by decide +kernel
theorem dL_cell_8 : decode cL_cell 8 = .ok (.iaload, 1) := by decide +kernel
theorem dL_cell_9 : decode cL_cell 9 = .ok (.goto 11, 3) := by decide +kernel
theorem dL_cell_12 : decode cL_cell 12 = .ok (.ldc 7, 2) := by decide +kernel
theorem dL_cell_14 : decode cL_cell 14 = .ok (.iload_n 1, 1) := by decide +kernel
theorem dL_cell_15 : decode cL_cell 15 = .ok (.sipush 587, 3) := by decide +kernel
theorem dL_cell_18 : decode cL_cell 18 = .ok (.iadd, 1) := by decide +kernel
theorem dL_cell_19 : decode cL_cell 19 = .ok (.imul, 1) := by decide +kernel
theorem dL_cell_20 : decode cL_cell 20 = .ok (.ireturn, 1) := by decide +kernel
theorem dL_at_0 : decode cL_at 0 = .ok (.iload_n 0, 1) := by decide +kernel
theorem dL_at_1 : decode cL_at 1 = .ok (.iconst 1, 1) := by decide +kernel
theorem dL_at_2 : decode cL_at 2 = .ok (.iushr, 1) := by decide +kernel
theorem dL_at_3 : decode cL_at 3 = .ok (.iload_n 1, 1) := by decide +kernel
theorem dL_at_4 : decode cL_at 4 = .ok (.irem, 1) := by decide +kernel
theorem dL_at_5 : decode cL_at 5 = .ok (.ireturn, 1) := by decide +kernel
theorem dL_total_0 : decode cL_total 0 = .ok (.iconst 0, 1) := by decide +kernel
theorem dL_total_1 : decode cL_total 1 = .ok (.istore_n 2, 1) := by decide +kernel
theorem dL_total_2 : decode cL_total 2 = .ok (.iconst 0, 1) := by decide +kernel
theorem dL_total_3 : decode cL_total 3 = .ok (.istore_n 3, 1) := by decide +kernel
theorem dL_total_4 : decode cL_total 4 = .ok (.iload_n 3, 1) := by decide +kernel
theorem dL_total_5 : decode cL_total 5 = .ok (.bipush 6, 2) := by decide +kernel
theorem dL_total_7 : decode cL_total 7 = .ok (.if_icmp .ge 20, 3) := by decide +kernel
theorem dL_total_10 : decode cL_total 10 = .ok (.iload_n 2, 1) := by decide +kernel
theorem dL_total_11 : decode cL_total 11 = .ok (.aload_n 0, 1) := by decide +kernel
theorem dL_total_12 : decode cL_total 12 = .ok (.bipush 6, 2) := by decide +kernel
theorem dL_total_14 : decode cL_total 14 = .ok (.iload_n 1, 1) := by decide +kernel
theorem dL_total_15 : decode cL_total 15 = .ok (.imul, 1) := by decide +kernel
theorem dL_total_16 : decode cL_total 16 = .ok (.iload_n 3, 1) := by decide +kernel
theorem dL_total_17 : decode cL_total 17 = .ok (.iadd, 1) := by decide +kernel
theorem dL_total_18 : decode cL_total 18 = .ok (.iaload, 1) := by decide +kernel
theorem dL_total_19 : decode cL_total 19 = .ok (.iadd, 1) := by decide +kernel
theorem dL_total_20 : decode cL_total 20 = .ok (.istore_n 2, 1) := by decide +kernel
theorem dL_total_21 : decode cL_total 21 = .ok (.iinc 3 1, 3) := by decide +kernel
theorem dL_total_24 : decode cL_total 24 = .ok (.goto (-20), 3) := by decide +kernel
theorem dL_total_27 : decode cL_total 27 = .ok (.iload_n 2, 1) := by decide +kernel
theorem dL_total_28 : decode cL_total 28 = .ok (.ireturn, 1) := by decide +kernel
theorem dL_draw_0 : decode cL_draw 0 = .ok (.aload_n 0, 1) := by decide +kernel
theorem dL_draw_1 : decode cL_draw 1 = .ok (.iconst 2, 1) := by decide +kernel
theorem dL_draw_2 : decode cL_draw 2 = .ok (.iaload, 1) := by decide +kernel
theorem dL_draw_3 : decode cL_draw 3 = .ok (.i2l, 1) := by decide +kernel
theorem dL_draw_4 : decode cL_draw 4 = .ok (.ldc2_w 8, 3) := by decide +kernel
theorem dL_draw_7 : decode cL_draw 7 = .ok (.lmul, 1) := by decide +kernel
theorem dL_draw_8 : decode cL_draw 8 = .ok (.ldc2_w 10, 3) := by decide +kernel
theorem dL_draw_11 : decode cL_draw 11 = .ok (.ladd, 1) := by decide +kernel
theorem dL_draw_12 : decode cL_draw 12 = .ok (.lstore_n 3, 1) := by decide +kernel
theorem dL_draw_13 : decode cL_draw 13 = .ok (.aload_n 0, 1) := by decide +kernel
theorem dL_draw_14 : decode cL_draw 14 = .ok (.iconst 2, 1) := by decide +kernel
theorem dL_draw_15 : decode cL_draw 15 = .ok (.lload_n 3, 1) := by decide +kernel
theorem dL_draw_16 : decode cL_draw 16 = .ok (.ldc2_w 12, 3) := by decide +kernel
theorem dL_draw_19 : decode cL_draw 19 = .ok (.land, 1) := by decide +kernel
theorem dL_draw_20 : decode cL_draw 20 = .ok (.l2i, 1) := by decide +kernel
theorem dL_draw_21 : decode cL_draw 21 = .ok (.iastore, 1) := by decide +kernel
theorem dL_draw_22 : decode cL_draw 22 = .ok (.aload_n 0, 1) := by decide +kernel
theorem dL_draw_23 : decode cL_draw 23 = .ok (.iconst 2, 1) := by decide +kernel
theorem dL_draw_24 : decode cL_draw 24 = .ok (.iaload, 1) := by decide +kernel
theorem dL_draw_25 : decode cL_draw 25 = .ok (.bipush 16, 2) := by decide +kernel
theorem dL_draw_27 : decode cL_draw 27 = .ok (.ishr, 1) := by decide +kernel
theorem dL_draw_28 : decode cL_draw 28 = .ok (.aload_n 1, 1) := by decide +kernel
theorem dL_draw_29 : decode cL_draw 29 = .ok (.iload_n 2, 1) := by decide +kernel
theorem dL_draw_30 : decode cL_draw 30 = .ok (.invokestatic 14, 3) := by decide +kernel
theorem dL_draw_33 : decode cL_draw 33 = .ok (.irem, 1) := by decide +kernel
theorem dL_draw_34 : decode cL_draw 34 = .ok (.istore 5, 2) := by decide +kernel
theorem dL_draw_36 : decode cL_draw 36 = .ok (.iconst 0, 1) := by decide +kernel
theorem dL_draw_37 : decode cL_draw 37 = .ok (.istore 6, 2) := by decide +kernel
theorem dL_draw_39 : decode cL_draw 39 = .ok (.iload 5, 2) := by decide +kernel
theorem dL_draw_41 : decode cL_draw 41 = .ok (.aload_n 1, 1) := by decide +kernel
theorem dL_draw_42 : decode cL_draw 42 = .ok (.bipush 6, 2) := by decide +kernel
theorem dL_draw_44 : decode cL_draw 44 = .ok (.iload_n 2, 1) := by decide +kernel
theorem dL_draw_45 : decode cL_draw 45 = .ok (.imul, 1) := by decide +kernel
theorem dL_draw_46 : decode cL_draw 46 = .ok (.iload 6, 2) := by decide +kernel
theorem dL_draw_48 : decode cL_draw 48 = .ok (.iadd, 1) := by decide +kernel
theorem dL_draw_49 : decode cL_draw 49 = .ok (.iaload, 1) := by decide +kernel
theorem dL_draw_50 : decode cL_draw 50 = .ok (.if_icmp .lt 23, 3) := by decide +kernel
theorem dL_draw_53 : decode cL_draw 53 = .ok (.iload 5, 2) := by decide +kernel
theorem dL_draw_55 : decode cL_draw 55 = .ok (.aload_n 1, 1) := by decide +kernel
theorem dL_draw_56 : decode cL_draw 56 = .ok (.bipush 6, 2) := by decide +kernel
theorem dL_draw_58 : decode cL_draw 58 = .ok (.iload_n 2, 1) := by decide +kernel
theorem dL_draw_59 : decode cL_draw 59 = .ok (.imul, 1) := by decide +kernel
theorem dL_draw_60 : decode cL_draw 60 = .ok (.iload 6, 2) := by decide +kernel
theorem dL_draw_62 : decode cL_draw 62 = .ok (.iinc 6 1, 3) := by decide +kernel
theorem dL_draw_65 : decode cL_draw 65 = .ok (.iadd, 1) := by decide +kernel
theorem dL_draw_66 : decode cL_draw 66 = .ok (.iaload, 1) := by decide +kernel
theorem dL_draw_67 : decode cL_draw 67 = .ok (.isub, 1) := by decide +kernel
theorem dL_draw_68 : decode cL_draw 68 = .ok (.istore 5, 2) := by decide +kernel
theorem dL_draw_70 : decode cL_draw 70 = .ok (.goto (-31), 3) := by decide +kernel
theorem dL_draw_73 : decode cL_draw 73 = .ok (.iload 6, 2) := by decide +kernel
theorem dL_draw_75 : decode cL_draw 75 = .ok (.ireturn, 1) := by decide +kernel
theorem dL_parts_0 : decode cL_parts 0 = .ok (.iload_n 1, 1) := by decide +kernel
theorem dL_parts_1 : decode cL_parts 1 = .ok (.bipush 9, 2) := by decide +kernel
theorem dL_parts_3 : decode cL_parts 3 = .ok (.invokestatic 20, 3) := by decide +kernel
theorem dL_parts_6 : decode cL_parts 6 = .ok (.istore 6, 2) := by decide +kernel
theorem dL_parts_8 : decode cL_parts 8 = .ok (.aload_n 3, 1) := by decide +kernel
theorem dL_parts_9 : decode cL_parts 9 = .ok (.iconst 3, 1) := by decide +kernel
theorem dL_parts_10 : decode cL_parts 10 = .ok (.iconst 0, 1) := by decide +kernel
theorem dL_parts_11 : decode cL_parts 11 = .ok (.iastore, 1) := by decide +kernel
theorem dL_parts_12 : decode cL_parts 12 = .ok (.aload_n 3, 1) := by decide +kernel
theorem dL_parts_13 : decode cL_parts 13 = .ok (.iconst 4, 1) := by decide +kernel
theorem dL_parts_14 : decode cL_parts 14 = .ok (.iconst 0, 1) := by decide +kernel
theorem dL_parts_15 : decode cL_parts 15 = .ok (.iastore, 1) := by decide +kernel
theorem dL_parts_16 : decode cL_parts 16 = .ok (.aload_n 3, 1) := by decide +kernel
