theorem dX0_init_0 : decode cX0_init 0 = .ok (.aload_n 0, 1) := by decide +kernel
theorem dX0_init_1 : decode cX0_init 1 = .ok (.invokespecial 3, 3) := by decide +kernel
theorem dX0_init_4 : decode cX0_init 4 = .ok (.aload_n 0, 1) := by decide +kernel
theorem dX0_init_5 : decode cX0_init 5 = .ok (.bipush 31, 2) := by decide +kernel
theorem dX0_init_7 : decode cX0_init 7 = .ok (.newarray .double, 2) := by decide +kernel
theorem dX0_init_9 : decode cX0_init 9 = .ok (.putfield 9, 3) := by decide +kernel
theorem dX0_init_12 : decode cX0_init 12 = .ok (.return_, 1) := by decide +kernel
theorem dX1_init_0 : decode cX1_init 0 = .ok (.aload_n 0, 1) := by decide +kernel
theorem dX1_init_1 : decode cX1_init 1 = .ok (.invokespecial 3, 3) := by decide +kernel
theorem dX1_init_4 : decode cX1_init 4 = .ok (.aload_n 0, 1) := by decide +kernel
theorem dX1_init_5 : decode cX1_init 5 = .ok (.bipush 31, 2) := by decide +kernel
theorem dX1_init_7 : decode cX1_init 7 = .ok (.newarray .long, 2) := by decide +kernel
theorem dX1_init_9 : decode cX1_init 9 = .ok (.putfield 9, 3) := by decide +kernel
theorem dX1_init_12 : decode cX1_init 12 = .ok (.return_, 1) := by decide +kernel
theorem dX1_fill_0 : decode cX1_fill 0 = .ok (.iconst 0, 1) := by decide +kernel
theorem dX1_fill_1 : decode cX1_fill 1 = .ok (.istore_n 3, 1) := by decide +kernel
theorem dX1_fill_2 : decode cX1_fill 2 = .ok (.iload_n 3, 1) := by decide +kernel
theorem dX1_fill_3 : decode cX1_fill 3 = .ok (.aload_n 0, 1) := by decide +kernel
theorem dX1_fill_4 : decode cX1_fill 4 = .ok (.getfield 9, 3) := by decide +kernel
theorem dX1_fill_7 : decode cX1_fill 7 = .ok (.arraylength, 1) := by decide +kernel
theorem dX1_fill_8 : decode cX1_fill 8 = .ok (.if_icmp .ge 24, 3) := by decide +kernel
theorem dX1_fill_11 : decode cX1_fill 11 = .ok (.aload_n 0, 1) := by decide +kernel
theorem dX1_fill_12 : decode cX1_fill 12 = .ok (.getfield 9, 3) := by decide +kernel
theorem dX1_fill_15 : decode cX1_fill 15 = .ok (.iload_n 3, 1) := by decide +kernel
theorem dX1_fill_16 : decode cX1_fill 16 = .ok (.iload_n 3, 1) := by decide +kernel
theorem dX1_fill_17 : decode cX1_fill 17 = .ok (.ifCond .ne 7, 3) := by decide +kernel
theorem dX1_fill_20 : decode cX1_fill 20 = .ok (.lconst 1, 1) := by decide +kernel
theorem dX1_fill_21 : decode cX1_fill 21 = .ok (.goto 4, 3) := by decide +kernel
theorem dX1_fill_24 : decode cX1_fill 24 = .ok (.lconst 0, 1) := by decide +kernel
theorem dX1_fill_25 : decode cX1_fill 25 = .ok (.lastore, 1) := by decide +kernel
theorem dX1_fill_26 : decode cX1_fill 26 = .ok (.iinc 3 1, 3) := by decide +kernel
theorem dX1_fill_29 : decode cX1_fill 29 = .ok (.goto (-27), 3) := by decide +kernel
theorem dX1_fill_32 : decode cX1_fill 32 = .ok (.iconst 0, 1) := by decide +kernel
theorem dX1_fill_33 : decode cX1_fill 33 = .ok (.istore_n 3, 1) := by decide +kernel
theorem dX1_fill_34 : decode cX1_fill 34 = .ok (.iload_n 3, 1) := by decide +kernel
theorem dX1_fill_35 : decode cX1_fill 35 = .ok (.aload_n 1, 1) := by decide +kernel
theorem dX1_fill_36 : decode cX1_fill 36 = .ok (.getfield 15, 3) := by decide +kernel
theorem dX1_fill_39 : decode cX1_fill 39 = .ok (.if_icmp .ge 20, 3) := by decide +kernel
theorem dX1_fill_42 : decode cX1_fill 42 = .ok (.iload_n 3, 1) := by decide +kernel
theorem dX1_fill_43 : decode cX1_fill 43 = .ok (.iload_n 2, 1) := by decide +kernel
theorem dX1_fill_44 : decode cX1_fill 44 = .ok (.if_icmp .eq 9, 3) := by decide +kernel
theorem dX1_fill_47 : decode cX1_fill 47 = .ok (.aload_n 0, 1) := by decide +kernel
theorem dX1_fill_48 : decode cX1_fill 48 = .ok (.aload_n 1, 1) := by decide +kernel
theorem dX1_fill_49 : decode cX1_fill 49 = .ok (.iload_n 3, 1) := by decide +kernel
theorem dX1_fill_50 : decode cX1_fill 50 = .ok (.invokevirtual 21, 3) := by decide +kernel
theorem dX1_fill_53 : decode cX1_fill 53 = .ok (.iinc 3 1, 3) := by decide +kernel
theorem dX1_fill_56 : decode cX1_fill 56 = .ok (.goto (-22), 3) := by decide +kernel
theorem dX1_fill_59 : decode cX1_fill 59 = .ok (.return_, 1) := by decide +kernel
theorem dX1_addPartOf_0 : decode cX1_addPartOf 0 = .ok (.aload_n 0, 1) := by decide +kernel
theorem dX1_addPartOf_1 : decode cX1_addPartOf 1 = .ok (.getfield 9, 3) := by decide +kernel
theorem dX1_addPartOf_4 : decode cX1_addPartOf 4 = .ok (.arraylength, 1) := by decide +kernel
theorem dX1_addPartOf_5 : decode cX1_addPartOf 5 = .ok (.iconst 1, 1) := by decide +kernel
theorem dX1_addPartOf_6 : decode cX1_addPartOf 6 = .ok (.isub, 1) := by decide +kernel
theorem dX1_addPartOf_7 : decode cX1_addPartOf 7 = .ok (.istore_n 3, 1) := by decide +kernel
theorem dX1_addPartOf_8 : decode cX1_addPartOf 8 = .ok (.iload_n 3, 1) := by decide +kernel
theorem dX1_addPartOf_9 : decode cX1_addPartOf 9 = .ok (.ifCond .lt 61, 3) := by decide +kernel
theorem dX1_addPartOf_12 : decode cX1_addPartOf 12 = .ok (.lconst 0, 1) := by decide +kernel
theorem dX1_addPartOf_13 : decode cX1_addPartOf 13 = .ok (.lstore 4, 2) := by decide +kernel
theorem dX1_addPartOf_15 : decode cX1_addPartOf 15 = .ok (.iconst 0, 1) := by decide +kernel
theorem dX1_addPartOf_16 : decode cX1_addPartOf 16 = .ok (.istore 6, 2) := by decide +kernel
theorem dX1_addPartOf_18 : decode cX1_addPartOf 18 = .ok (.iload 6, 2) := by decide +kernel
theorem dX1_addPartOf_20 : decode cX1_addPartOf 20 = .ok (.bipush 6, 2) := by decide +kernel
theorem dX1_addPartOf_22 : decode cX1_addPartOf 22 = .ok (.if_icmp .ge 34, 3) := by decide +kernel
theorem dX1_addPartOf_25 : decode cX1_addPartOf 25 = .ok (.lload 4, 2) := by decide +kernel
theorem dX1_addPartOf_27 : decode cX1_addPartOf 27 = .ok (.aload_n 1, 1) := by decide +kernel
theorem dX1_addPartOf_28 : decode cX1_addPartOf 28 = .ok (.getfield 25, 3) := by decide +kernel
theorem dX1_addPartOf_31 : decode cX1_addPartOf 31 = .ok (.iload_n 2, 1) := by decide +kernel
theorem dX1_addPartOf_32 : decode cX1_addPartOf 32 = .ok (.iload 6, 2) := by decide +kernel
theorem dX1_addPartOf_34 : decode cX1_addPartOf 34 = .ok (.invokevirtual 29, 3) := by decide +kernel
theorem dX1_addPartOf_37 : decode cX1_addPartOf 37 = .ok (.i2l, 1) := by decide +kernel
theorem dX1_addPartOf_38 : decode cX1_addPartOf 38 = .ok (.aload_n 0, 1) := by decide +kernel
theorem dX1_addPartOf_39 : decode cX1_addPartOf 39 = .ok (.iload_n 3, 1) := by decide +kernel
theorem dX1_addPartOf_40 : decode cX1_addPartOf 40 = .ok (.iload 6, 2) := by decide +kernel
theorem dX1_addPartOf_42 : decode cX1_addPartOf 42 = .ok (.isub, 1) := by decide +kernel
theorem dX1_addPartOf_43 : decode cX1_addPartOf 43 = .ok (.invokevirtual 35, 3) := by decide +kernel
theorem dX1_addPartOf_46 : decode cX1_addPartOf 46 = .ok (.lmul, 1) := by decide +kernel
theorem dX1_addPartOf_47 : decode cX1_addPartOf 47 = .ok (.ladd, 1) := by decide +kernel
theorem dX1_addPartOf_48 : decode cX1_addPartOf 48 = .ok (.lstore 4, 2) := by decide +kernel
theorem dX1_addPartOf_50 : decode cX1_addPartOf 50 = .ok (.iinc 6 1, 3) := by decide +kernel
theorem dX1_addPartOf_53 : decode cX1_addPartOf 53 = .ok (.goto (-35), 3) := by decide +kernel
theorem dX1_addPartOf_56 : decode cX1_addPartOf 56 = .ok (.aload_n 0, 1) := by decide +kernel
theorem dX1_addPartOf_57 : decode cX1_addPartOf 57 = .ok (.getfield 9, 3) := by decide +kernel
theorem dX1_addPartOf_60 : decode cX1_addPartOf 60 = .ok (.iload_n 3, 1) := by decide +kernel
theorem dX1_addPartOf_61 : decode cX1_addPartOf 61 = .ok (.lload 4, 2) := by decide +kernel
theorem dX1_addPartOf_63 : decode cX1_addPartOf 63 = .ok (.lastore, 1) := by decide +kernel
theorem dX1_addPartOf_64 : decode cX1_addPartOf 64 = .ok (.iinc 3 (-1), 3) := by decide +kernel
theorem dX1_addPartOf_67 : decode cX1_addPartOf 67 = .ok (.goto (-59), 3) := by decide +kernel
theorem dX1_addPartOf_70 : decode cX1_addPartOf 70 = .ok (.return_, 1) := by decide +kernel
theorem dX1_waysOf_0 : decode cX1_waysOf 0 = .ok (.iload_n 1, 1) := by decide +kernel
theorem dX1_waysOf_1 : decode cX1_waysOf 1 = .ok (.ifCond .lt 21, 3) := by decide +kernel
theorem dX1_waysOf_4 : decode cX1_waysOf 4 = .ok (.iload_n 1, 1) := by decide +kernel
theorem dX1_waysOf_5 : decode cX1_waysOf 5 = .ok (.aload_n 0, 1) := by decide +kernel
theorem dX1_waysOf_6 : decode cX1_waysOf 6 = .ok (.getfield 9, 3) := by decide +kernel
theorem dX1_waysOf_9 : decode cX1_waysOf 9 = .ok (.arraylength, 1) := by decide +kernel
theorem dX1_waysOf_10 : decode cX1_waysOf 10 = .ok (.if_icmp .ge 12, 3) := by decide +kernel
theorem dX1_waysOf_13 : decode cX1_waysOf 13 = .ok (.aload_n 0, 1) := by decide +kernel
theorem dX1_waysOf_14 : decode cX1_waysOf 14 = .ok (.getfield 9, 3) := by decide +kernel
theorem dX1_waysOf_17 : decode cX1_waysOf 17 = .ok (.iload_n 1, 1) := by decide +kernel
theorem dX1_waysOf_18 : decode cX1_waysOf 18 = .ok (.laload, 1) := by decide +kernel
theorem dX1_waysOf_19 : decode cX1_waysOf 19 = .ok (.goto 4, 3) := by decide +kernel
theorem dX1_waysOf_22 : decode cX1_waysOf 22 = .ok (.lconst 0, 1) := by decide +kernel
theorem dX1_waysOf_23 : decode cX1_waysOf 23 = .ok (.lreturn, 1) := by decide +kernel
theorem dX1_waysFrom_0 : decode cX1_waysFrom 0 = .ok (.lconst 0, 1) := by decide +kernel
theorem dX1_waysFrom_1 : decode cX1_waysFrom 1 = .ok (.lstore_n 2, 1) := by decide +kernel
theorem dX1_waysFrom_2 : decode cX1_waysFrom 2 = .ok (.iload_n 1, 1) := by decide +kernel
theorem dX1_waysFrom_3 : decode cX1_waysFrom 3 = .ok (.iconst 0, 1) := by decide +kernel
theorem dX1_waysFrom_4 : decode cX1_waysFrom 4 = .ok (.invokestatic 39, 3) := by decide +kernel
theorem dX1_waysFrom_7 : decode cX1_waysFrom 7 = .ok (.istore 4, 2) := by decide +kernel
theorem dX1_waysFrom_9 : decode cX1_waysFrom 9 = .ok (.iload 4, 2) := by decide +kernel
theorem dX1_waysFrom_11 : decode cX1_waysFrom 11 = .ok (.aload_n 0, 1) := by decide +kernel
theorem dX1_waysFrom_12 : decode cX1_waysFrom 12 = .ok (.getfield 9, 3) := by decide +kernel
theorem dX1_waysFrom_15 : decode cX1_waysFrom 15 = .ok (.arraylength, 1) := by decide +kernel
theorem dX1_waysFrom_16 : decode cX1_waysFrom 16 = .ok (.if_icmp .ge 19, 3) := by decide +kernel
theorem dX1_waysFrom_19 : decode cX1_waysFrom 19 = .ok (.lload_n 2, 1) := by decide +kernel
theorem dX1_waysFrom_20 : decode cX1_waysFrom 20 = .ok (.aload_n 0, 1) := by decide +kernel
theorem dX1_waysFrom_21 : decode cX1_waysFrom 21 = .ok (.getfield 9, 3) := by decide +kernel
theorem dX1_waysFrom_24 : decode cX1_waysFrom 24 = .ok (.iload 4, 2) := by decide +kernel
theorem dX1_waysFrom_26 : decode cX1_waysFrom 26 = .ok (.laload, 1) := by decide +kernel
theorem dX1_waysFrom_27 : decode cX1_waysFrom 27 = .ok (.ladd, 1) := by decide +kernel
theorem dX1_waysFrom_28 : decode cX1_waysFrom 28 = .ok (.lstore_n 2, 1) := by decide +kernel
theorem dX1_waysFrom_29 : decode cX1_waysFrom 29 = .ok (.iinc 4 1, 3) := by decide +kernel
theorem dX1_waysFrom_32 : decode cX1_waysFrom 32 = .ok (.goto (-23), 3) := by decide +kernel
theorem dX1_waysFrom_35 : decode cX1_waysFrom 35 = .ok (.lload_n 2, 1) := by decide +kernel
theorem dX1_waysFrom_36 : decode cX1_waysFrom 36 = .ok (.lreturn, 1) := by decide +kernel
theorem dX1_oddsFrom_0 : decode cX1_oddsFrom 0 = .ok (.aload_n 0, 1) := by decide +kernel
theorem dX1_oddsFrom_1 : decode cX1_oddsFrom 1 = .ok (.iconst 0, 1) := by decide +kernel
theorem dX1_oddsFrom_2 : decode cX1_oddsFrom 2 = .ok (.invokevirtual 44, 3) := by decide +kernel
theorem dX1_oddsFrom_5 : decode cX1_oddsFrom 5 = .ok (.lstore_n 2, 1) := by decide +kernel
theorem dX1_oddsFrom_6 : decode cX1_oddsFrom 6 = .ok (.lload_n 2, 1) := by decide +kernel
theorem dX1_oddsFrom_7 : decode cX1_oddsFrom 7 = .ok (.lconst 0, 1) := by decide +kernel
theorem dX1_oddsFrom_8 : decode cX1_oddsFrom 8 = .ok (.lcmp, 1) := by decide +kernel
theorem dX1_oddsFrom_9 : decode cX1_oddsFrom 9 = .ok (.ifCond .le 15, 3) := by decide +kernel
theorem dX1_oddsFrom_12 : decode cX1_oddsFrom 12 = .ok (.aload_n 0, 1) := by decide +kernel
theorem dX1_oddsFrom_13 : decode cX1_oddsFrom 13 = .ok (.iload_n 1, 1) := by decide +kernel
theorem dX1_oddsFrom_14 : decode cX1_oddsFrom 14 = .ok (.invokevirtual 44, 3) := by decide +kernel
theorem dX1_oddsFrom_17 : decode cX1_oddsFrom 17 = .ok (.l2d, 1) := by decide +kernel
theorem dX1_oddsFrom_18 : decode cX1_oddsFrom 18 = .ok (.lload_n 2, 1) := by decide +kernel
theorem dX1_oddsFrom_19 : decode cX1_oddsFrom 19 = .ok (.l2d, 1) := by decide +kernel
theorem dX1_oddsFrom_20 : decode cX1_oddsFrom 20 = .ok (.ddiv, 1) := by decide +kernel
theorem dX1_oddsFrom_21 : decode cX1_oddsFrom 21 = .ok (.goto 4, 3) := by decide +kernel
theorem dX1_oddsFrom_24 : decode cX1_oddsFrom 24 = .ok (.dconst 0, 1) := by decide +kernel
theorem dX1_oddsFrom_25 : decode cX1_oddsFrom 25 = .ok (.dreturn, 1) := by decide +kernel
theorem dX2_init_0 : decode cX2_init 0 = .ok (.aload_n 0, 1) := by decide +kernel
theorem dX2_init_1 : decode cX2_init 1 = .ok (.invokespecial 3, 3) := by decide +kernel
theorem dX2_init_4 : decode cX2_init 4 = .ok (.aload_n 0, 1) := by decide +kernel
theorem dX2_init_5 : decode cX2_init 5 = .ok (.bipush 6, 2) := by decide +kernel
theorem dX2_init_7 : decode cX2_init 7 = .ok (.anewarray 9, 3) := by decide +kernel
theorem dX2_init_10 : decode cX2_init 10 = .ok (.putfield 11, 3) := by decide +kernel
theorem dX2_init_13 : decode cX2_init 13 = .ok (.aload_n 0, 1) := by decide +kernel
theorem dX2_init_14 : decode cX2_init 14 = .ok (.iconst 0, 1) := by decide +kernel
theorem dX2_init_15 : decode cX2_init 15 = .ok (.putfield 17, 3) := by decide +kernel
theorem dX2_init_18 : decode cX2_init 18 = .ok (.aload_n 0, 1) := by decide +kernel
theorem dX2_init_19 : decode cX2_init 19 = .ok (.iconst 0, 1) := by decide +kernel
theorem dX2_init_20 : decode cX2_init 20 = .ok (.putfield 21, 3) := by decide +kernel
theorem dX2_init_23 : decode cX2_init 23 = .ok (.return_, 1) := by decide +kernel
theorem dX2_save_0 : decode cX2_save 0 = .ok (.aload_n 0, 1) := by decide +kernel
theorem dX2_save_1 : decode cX2_save 1 = .ok (.getfield 17, 3) := by decide +kernel
theorem dX2_save_4 : decode cX2_save 4 = .ok (.ifCond .lt 15, 3) := by decide +kernel
theorem dX2_save_7 : decode cX2_save 7 = .ok (.aload_n 0, 1) := by decide +kernel
theorem dX2_save_8 : decode cX2_save 8 = .ok (.getfield 17, 3) := by decide +kernel
theorem dX2_save_11 : decode cX2_save 11 = .ok (.aload_n 0, 1) := by decide +kernel
theorem dX2_save_12 : decode cX2_save 12 = .ok (.getfield 11, 3) := by decide +kernel
theorem dX2_save_15 : decode cX2_save 15 = .ok (.arraylength, 1) := by decide +kernel
theorem dX2_save_16 : decode cX2_save 16 = .ok (.if_icmp .lt 4, 3) := by decide +kernel
theorem dX2_save_19 : decode cX2_save 19 = .ok (.return_, 1) := by decide +kernel
theorem dX2_save_20 : decode cX2_save 20 = .ok (.aload_n 0, 1) := by decide +kernel
theorem dX2_save_21 : decode cX2_save 21 = .ok (.getfield 11, 3) := by decide +kernel
theorem dX2_save_24 : decode cX2_save 24 = .ok (.aload_n 0, 1) := by decide +kernel
theorem dX2_save_25 : decode cX2_save 25 = .ok (.getfield 17, 3) := by decide +kernel
theorem dX2_save_28 : decode cX2_save 28 = .ok (.aaload, 1) := by decide +kernel
theorem dX2_save_29 : decode cX2_save 29 = .ok (.astore_n 2, 1) := by decide +kernel
theorem dX2_save_30 : decode cX2_save 30 = .ok (.aload_n 2, 1) := by decide +kernel
theorem dX2_save_31 : decode cX2_save 31 = .ok (.ifnonnull 21, 3) := by decide +kernel
theorem dX2_save_34 : decode cX2_save 34 = .ok (.new 9, 3) := by decide +kernel
theorem dX2_save_37 : decode cX2_save 37 = .ok (.dup, 1) := by decide +kernel
theorem dX2_save_38 : decode cX2_save 38 = .ok (.invokespecial 24, 3) := by decide +kernel
theorem dX2_save_41 : decode cX2_save 41 = .ok (.astore_n 2, 1) := by decide +kernel
theorem dX2_save_42 : decode cX2_save 42 = .ok (.aload_n 0, 1) := by decide +kernel
theorem dX2_save_43 : decode cX2_save 43 = .ok (.getfield 11, 3) := by decide +kernel
theorem dX2_save_46 : decode cX2_save 46 = .ok (.aload_n 0, 1) := by decide +kernel
theorem dX2_save_47 : decode cX2_save 47 = .ok (.getfield 17, 3) := by decide +kernel
theorem dX2_save_50 : decode cX2_save 50 = .ok (.aload_n 2, 1) := by decide +kernel
theorem dX2_save_51 : decode cX2_save 51 = .ok (.aastore, 1) := by decide +kernel
theorem dX2_save_52 : decode cX2_save 52 = .ok (.aload_n 2, 1) := by decide +kernel
theorem dX2_save_53 : decode cX2_save 53 = .ok (.aload_n 1, 1) := by decide +kernel
theorem dX2_save_54 : decode cX2_save 54 = .ok (.invokevirtual 25, 3) := by decide +kernel
theorem dX2_save_57 : decode cX2_save 57 = .ok (.aload_n 0, 1) := by decide +kernel
theorem dX2_save_58 : decode cX2_save 58 = .ok (.aload_n 0, 1) := by decide +kernel
theorem dX2_save_59 : decode cX2_save 59 = .ok (.getfield 17, 3) := by decide +kernel
theorem dX2_save_62 : decode cX2_save 62 = .ok (.iconst 1, 1) := by decide +kernel
theorem dX2_save_63 : decode cX2_save 63 = .ok (.iadd, 1) := by decide +kernel
theorem dX2_save_64 : decode cX2_save 64 = .ok (.bipush 6, 2) := by decide +kernel
theorem dX2_save_66 : decode cX2_save 66 = .ok (.irem, 1) := by decide +kernel
theorem dX2_save_67 : decode cX2_save 67 = .ok (.putfield 17, 3) := by decide +kernel
theorem dX2_save_70 : decode cX2_save 70 = .ok (.aload_n 0, 1) := by decide +kernel
theorem dX2_save_71 : decode cX2_save 71 = .ok (.aload_n 0, 1) := by decide +kernel
theorem dX2_save_72 : decode cX2_save 72 = .ok (.getfield 21, 3) := by decide +kernel
theorem dX2_save_75 : decode cX2_save 75 = .ok (.iconst 1, 1) := by decide +kernel
theorem dX2_save_76 : decode cX2_save 76 = .ok (.iadd, 1) := by decide +kernel
theorem dX2_save_77 : decode cX2_save 77 = .ok (.bipush 6, 2) := by decide +kernel
theorem dX2_save_79 : decode cX2_save 79 = .ok (.invokestatic 29, 3) := by decide +kernel
theorem dX2_save_82 : decode cX2_save 82 = .ok (.putfield 21, 3) := by decide +kernel
theorem dX2_save_85 : decode cX2_save 85 = .ok (.return_, 1) := by decide +kernel
theorem dX3_init_0 : decode cX3_init 0 = .ok (.aload_n 0, 1) := by decide +kernel
theorem dX3_init_1 : decode cX3_init 1 = .ok (.invokespecial 3, 3) := by decide +kernel
theorem dX3_init_4 : decode cX3_init 4 = .ok (.aload_n 0, 1) := by decide +kernel
theorem dX3_init_5 : decode cX3_init 5 = .ok (.sipush 217, 3) := by decide +kernel
theorem dX3_init_8 : decode cX3_init 8 = .ok (.newarray .int, 2) := by decide +kernel
theorem dX3_init_10 : decode cX3_init 10 = .ok (.putfield 9, 3) := by decide +kernel
theorem dX3_init_13 : decode cX3_init 13 = .ok (.return_, 1) := by decide +kernel
theorem dX3_fill_0 : decode cX3_fill 0 = .ok (.iconst 0, 1) := by decide +kernel
theorem dX3_fill_1 : decode cX3_fill 1 = .ok (.istore_n 2, 1) := by decide +kernel
theorem dX3_fill_2 : decode cX3_fill 2 = .ok (.iload_n 2, 1) := by decide +kernel
theorem dX3_fill_3 : decode cX3_fill 3 = .ok (.bipush 31, 2) := by decide +kernel
theorem dX3_fill_5 : decode cX3_fill 5 = .ok (.if_icmp .ge 27, 3) := by decide +kernel
theorem dX3_fill_8 : decode cX3_fill 8 = .ok (.aload_n 0, 1) := by decide +kernel
theorem dX3_fill_9 : decode cX3_fill 9 = .ok (.aload_n 1, 1) := by decide +kernel
theorem dX3_fill_10 : decode cX3_fill 10 = .ok (.getfield 15, 3) := by decide +kernel
theorem dX3_fill_13 : decode cX3_fill 13 = .ok (.iload_n 2, 1) := by decide +kernel
theorem dX3_fill_14 : decode cX3_fill 14 = .ok (.iload_n 2, 1) := by decide +kernel
theorem dX3_fill_15 : decode cX3_fill 15 = .ok (.ifCond .ne 7, 3) := by decide +kernel
theorem dX3_fill_18 : decode cX3_fill 18 = .ok (.iconst 1, 1) := by decide +kernel
theorem dX3_fill_19 : decode cX3_fill 19 = .ok (.goto 4, 3) := by decide +kernel
theorem dX3_fill_22 : decode cX3_fill 22 = .ok (.iconst 0, 1) := by decide +kernel
theorem dX3_fill_23 : decode cX3_fill 23 = .ok (.invokevirtual 21, 3) := by decide +kernel
theorem dX3_fill_26 : decode cX3_fill 26 = .ok (.iinc 2 1, 3) := by decide +kernel
theorem dX3_fill_29 : decode cX3_fill 29 = .ok (.goto (-27), 3) := by decide +kernel
theorem dX3_fill_32 : decode cX3_fill 32 = .ok (.aload_n 1, 1) := by decide +kernel
theorem dX3_fill_33 : decode cX3_fill 33 = .ok (.getfield 15, 3) := by decide +kernel
theorem dX3_fill_36 : decode cX3_fill 36 = .ok (.iconst 1, 1) := by decide +kernel
theorem dX3_fill_37 : decode cX3_fill 37 = .ok (.isub, 1) := by decide +kernel
theorem dX3_fill_38 : decode cX3_fill 38 = .ok (.istore_n 2, 1) := by decide +kernel
theorem dX3_fill_39 : decode cX3_fill 39 = .ok (.iload_n 2, 1) := by decide +kernel
theorem dX3_fill_40 : decode cX3_fill 40 = .ok (.ifCond .lt 36, 3) := by decide +kernel
theorem dX3_fill_43 : decode cX3_fill 43 = .ok (.iconst 0, 1) := by decide +kernel
theorem dX3_fill_44 : decode cX3_fill 44 = .ok (.istore_n 3, 1) := by decide +kernel
theorem dX3_fill_45 : decode cX3_fill 45 = .ok (.iload_n 3, 1) := by decide +kernel
theorem dX3_fill_46 : decode cX3_fill 46 = .ok (.bipush 31, 2) := by decide +kernel
theorem dX3_fill_48 : decode cX3_fill 48 = .ok (.if_icmp .ge 22, 3) := by decide +kernel
theorem dX3_fill_51 : decode cX3_fill 51 = .ok (.aload_n 0, 1) := by decide +kernel
theorem dX3_fill_52 : decode cX3_fill 52 = .ok (.iload_n 2, 1) := by decide +kernel
theorem dX3_fill_53 : decode cX3_fill 53 = .ok (.iload_n 3, 1) := by decide +kernel
theorem dX3_fill_54 : decode cX3_fill 54 = .ok (.aload_n 0, 1) := by decide +kernel
theorem dX3_fill_55 : decode cX3_fill 55 = .ok (.aload_n 1, 1) := by decide +kernel
theorem dX3_fill_56 : decode cX3_fill 56 = .ok (.iload_n 2, 1) := by decide +kernel
theorem dX3_fill_57 : decode cX3_fill 57 = .ok (.iload_n 3, 1) := by decide +kernel
theorem dX3_fill_58 : decode cX3_fill 58 = .ok (.invokevirtual 25, 3) := by decide +kernel
theorem dX3_fill_61 : decode cX3_fill 61 = .ok (.invokevirtual 21, 3) := by decide +kernel
theorem dX3_fill_64 : decode cX3_fill 64 = .ok (.iinc 3 1, 3) := by decide +kernel
theorem dX3_fill_67 : decode cX3_fill 67 = .ok (.goto (-22), 3) := by decide +kernel
theorem dX3_fill_70 : decode cX3_fill 70 = .ok (.iinc 2 (-1), 3) := by decide +kernel
theorem dX3_fill_73 : decode cX3_fill 73 = .ok (.goto (-34), 3) := by decide +kernel
theorem dX3_fill_76 : decode cX3_fill 76 = .ok (.return_, 1) := by decide +kernel
theorem dX3_waysFor_0 : decode cX3_waysFor 0 = .ok (.aload_n 0, 1) := by decide +kernel
theorem dX3_waysFor_1 : decode cX3_waysFor 1 = .ok (.iconst 0, 1) := by decide +kernel
theorem dX3_waysFor_2 : decode cX3_waysFor 2 = .ok (.iload_n 1, 1) := by decide +kernel
theorem dX3_waysFor_3 : decode cX3_waysFor 3 = .ok (.invokevirtual 29, 3) := by decide +kernel
theorem dX3_waysFor_6 : decode cX3_waysFor 6 = .ok (.ireturn, 1) := by decide +kernel
theorem dX3_loadOf_0 : decode cX3_loadOf 0 = .ok (.aload_n 0, 1) := by decide +kernel
theorem dX3_loadOf_1 : decode cX3_loadOf 1 = .ok (.aload_n 1, 1) := by decide +kernel
theorem dX3_loadOf_2 : decode cX3_loadOf 2 = .ok (.getfield 33, 3) := by decide +kernel
theorem dX3_loadOf_5 : decode cX3_loadOf 5 = .ok (.invokevirtual 36, 3) := by decide +kernel
theorem dX3_loadOf_8 : decode cX3_loadOf 8 = .ok (.ifCond .ne 5, 3) := by decide +kernel
theorem dX3_loadOf_11 : decode cX3_loadOf 11 = .ok (.iconst (-1), 1) := by decide +kernel
theorem dX3_loadOf_12 : decode cX3_loadOf 12 = .ok (.ireturn, 1) := by decide +kernel
theorem dX3_loadOf_13 : decode cX3_loadOf 13 = .ok (.aload_n 1, 1) := by decide +kernel
theorem dX3_loadOf_14 : decode cX3_loadOf 14 = .ok (.getfield 33, 3) := by decide +kernel
theorem dX3_loadOf_17 : decode cX3_loadOf 17 = .ok (.istore_n 3, 1) := by decide +kernel
theorem dX3_loadOf_18 : decode cX3_loadOf 18 = .ok (.iconst 0, 1) := by decide +kernel
theorem dX3_loadOf_19 : decode cX3_loadOf 19 = .ok (.istore 4, 2) := by decide +kernel
theorem dX3_loadOf_21 : decode cX3_loadOf 21 = .ok (.iload 4, 2) := by decide +kernel
theorem dX3_loadOf_23 : decode cX3_loadOf 23 = .ok (.iload_n 2, 1) := by decide +kernel
theorem dX3_loadOf_24 : decode cX3_loadOf 24 = .ok (.if_icmp .ge 24, 3) := by decide +kernel
theorem dX3_loadOf_27 : decode cX3_loadOf 27 = .ok (.iload_n 3, 1) := by decide +kernel
theorem dX3_loadOf_28 : decode cX3_loadOf 28 = .ok (.aload_n 0, 1) := by decide +kernel
theorem dX3_loadOf_29 : decode cX3_loadOf 29 = .ok (.aload_n 1, 1) := by decide +kernel
theorem dX3_loadOf_30 : decode cX3_loadOf 30 = .ok (.iload 4, 2) := by decide +kernel
theorem dX3_loadOf_32 : decode cX3_loadOf 32 = .ok (.iload_n 3, 1) := by decide +kernel
theorem dX3_loadOf_33 : decode cX3_loadOf 33 = .ok (.invokevirtual 40, 3) := by decide +kernel
theorem dX3_loadOf_36 : decode cX3_loadOf 36 = .ok (.isub, 1) := by decide +kernel
theorem dX3_loadOf_37 : decode cX3_loadOf 37 = .ok (.iconst 0, 1) := by decide +kernel
theorem dX3_loadOf_38 : decode cX3_loadOf 38 = .ok (.invokestatic 43, 3) := by decide +kernel
theorem dX3_loadOf_41 : decode cX3_loadOf 41 = .ok (.istore_n 3, 1) := by decide +kernel
theorem dX3_loadOf_42 : decode cX3_loadOf 42 = .ok (.iinc 4 1, 3) := by decide +kernel
theorem dX3_loadOf_45 : decode cX3_loadOf 45 = .ok (.goto (-24), 3) := by decide +kernel
theorem dX3_loadOf_48 : decode cX3_loadOf 48 = .ok (.aload_n 0, 1) := by decide +kernel
theorem dX3_loadOf_49 : decode cX3_loadOf 49 = .ok (.aload_n 1, 1) := by decide +kernel
theorem dX3_loadOf_50 : decode cX3_loadOf 50 = .ok (.iload_n 2, 1) := by decide +kernel
theorem dX3_loadOf_51 : decode cX3_loadOf 51 = .ok (.iload_n 3, 1) := by decide +kernel
theorem dX3_loadOf_52 : decode cX3_loadOf 52 = .ok (.invokevirtual 40, 3) := by decide +kernel
theorem dX3_loadOf_55 : decode cX3_loadOf 55 = .ok (.ireturn, 1) := by decide +kernel
theorem dX3_firstLoad_0 : decode cX3_firstLoad 0 = .ok (.iconst 0, 1) := by decide +kernel
theorem dX3_firstLoad_1 : decode cX3_firstLoad 1 = .ok (.istore 4, 2) := by decide +kernel
theorem dX3_firstLoad_3 : decode cX3_firstLoad 3 = .ok (.iload 4, 2) := by decide +kernel
theorem dX3_firstLoad_5 : decode cX3_firstLoad 5 = .ok (.bipush 6, 2) := by decide +kernel
theorem dX3_firstLoad_7 : decode cX3_firstLoad 7 = .ok (.if_icmp .ge 30, 3) := by decide +kernel
theorem dX3_firstLoad_10 : decode cX3_firstLoad 10 = .ok (.aload_n 0, 1) := by decide +kernel
theorem dX3_firstLoad_11 : decode cX3_firstLoad 11 = .ok (.aload_n 1, 1) := by decide +kernel
theorem dX3_firstLoad_12 : decode cX3_firstLoad 12 = .ok (.iload_n 2, 1) := by decide +kernel
theorem dX3_firstLoad_13 : decode cX3_firstLoad 13 = .ok (.iload 4, 2) := by decide +kernel
theorem dX3_firstLoad_15 : decode cX3_firstLoad 15 = .ok (.iload_n 3, 1) := by decide +kernel
theorem dX3_firstLoad_16 : decode cX3_firstLoad 16 = .ok (.invokevirtual 48, 3) := by decide +kernel
theorem dX3_firstLoad_19 : decode cX3_firstLoad 19 = .ok (.aload_n 0, 1) := by decide +kernel
theorem dX3_firstLoad_20 : decode cX3_firstLoad 20 = .ok (.iload_n 2, 1) := by decide +kernel
theorem dX3_firstLoad_21 : decode cX3_firstLoad 21 = .ok (.iload_n 3, 1) := by decide +kernel
theorem dX3_firstLoad_22 : decode cX3_firstLoad 22 = .ok (.invokevirtual 29, 3) := by decide +kernel
theorem dX3_firstLoad_25 : decode cX3_firstLoad 25 = .ok (.if_icmp .ne 6, 3) := by decide +kernel
theorem dX3_firstLoad_28 : decode cX3_firstLoad 28 = .ok (.iload 4, 2) := by decide +kernel
theorem dX3_firstLoad_30 : decode cX3_firstLoad 30 = .ok (.ireturn, 1) := by decide +kernel
theorem dX3_firstLoad_31 : decode cX3_firstLoad 31 = .ok (.iinc 4 1, 3) := by decide +kernel
theorem dX3_firstLoad_34 : decode cX3_firstLoad 34 = .ok (.goto (-31), 3) := by decide +kernel
theorem dX3_firstLoad_37 : decode cX3_firstLoad 37 = .ok (.iconst (-1), 1) := by decide +kernel
theorem dX3_firstLoad_38 : decode cX3_firstLoad 38 = .ok (.ireturn, 1) := by decide +kernel
theorem dX3_mostOfLoads_0 : decode cX3_mostOfLoads 0 = .ok (.iconst 0, 1) := by decide +kernel
theorem dX3_mostOfLoads_1 : decode cX3_mostOfLoads 1 = .ok (.istore 4, 2) := by decide +kernel
theorem dX3_mostOfLoads_3 : decode cX3_mostOfLoads 3 = .ok (.iconst 0, 1) := by decide +kernel
theorem dX3_mostOfLoads_4 : decode cX3_mostOfLoads 4 = .ok (.istore 5, 2) := by decide +kernel
theorem dX3_mostOfLoads_6 : decode cX3_mostOfLoads 6 = .ok (.iload 5, 2) := by decide +kernel
theorem dX3_mostOfLoads_8 : decode cX3_mostOfLoads 8 = .ok (.bipush 6, 2) := by decide +kernel
theorem dX3_mostOfLoads_10 : decode cX3_mostOfLoads 10 = .ok (.if_icmp .ge 25, 3) := by decide +kernel
theorem dX3_mostOfLoads_13 : decode cX3_mostOfLoads 13 = .ok (.iload 4, 2) := by decide +kernel
theorem dX3_mostOfLoads_15 : decode cX3_mostOfLoads 15 = .ok (.aload_n 0, 1) := by decide +kernel
theorem dX3_mostOfLoads_16 : decode cX3_mostOfLoads 16 = .ok (.aload_n 1, 1) := by decide +kernel
theorem dX3_mostOfLoads_17 : decode cX3_mostOfLoads 17 = .ok (.iload_n 2, 1) := by decide +kernel
theorem dX3_mostOfLoads_18 : decode cX3_mostOfLoads 18 = .ok (.iload 5, 2) := by decide +kernel
theorem dX3_mostOfLoads_20 : decode cX3_mostOfLoads 20 = .ok (.iload_n 3, 1) := by decide +kernel
theorem dX3_mostOfLoads_21 : decode cX3_mostOfLoads 21 = .ok (.invokevirtual 48, 3) := by decide +kernel
theorem dX3_mostOfLoads_24 : decode cX3_mostOfLoads 24 = .ok (.invokestatic 43, 3) := by decide +kernel
theorem dX3_mostOfLoads_27 : decode cX3_mostOfLoads 27 = .ok (.istore 4, 2) := by decide +kernel
theorem dX3_mostOfLoads_29 : decode cX3_mostOfLoads 29 = .ok (.iinc 5 1, 3) := by decide +kernel
theorem dX3_mostOfLoads_32 : decode cX3_mostOfLoads 32 = .ok (.goto (-26), 3) := by decide +kernel
theorem dX3_mostOfLoads_35 : decode cX3_mostOfLoads 35 = .ok (.iload 4, 2) := by decide +kernel
theorem dX3_mostOfLoads_37 : decode cX3_mostOfLoads 37 = .ok (.ireturn, 1) := by decide +kernel
theorem dX3_waysWith_0 : decode cX3_waysWith 0 = .ok (.aload_n 1, 1) := by decide +kernel
theorem dX3_waysWith_1 : decode cX3_waysWith 1 = .ok (.getfield 52, 3) := by decide +kernel
theorem dX3_waysWith_4 : decode cX3_waysWith 4 = .ok (.iload_n 2, 1) := by decide +kernel
theorem dX3_waysWith_5 : decode cX3_waysWith 5 = .ok (.iload_n 3, 1) := by decide +kernel
theorem dX3_waysWith_6 : decode cX3_waysWith 6 = .ok (.invokevirtual 56, 3) := by decide +kernel
theorem dX3_waysWith_9 : decode cX3_waysWith 9 = .ok (.aload_n 0, 1) := by decide +kernel
theorem dX3_waysWith_10 : decode cX3_waysWith 10 = .ok (.iload_n 2, 1) := by decide +kernel
theorem dX3_waysWith_11 : decode cX3_waysWith 11 = .ok (.iconst 1, 1) := by decide +kernel
theorem dX3_waysWith_12 : decode cX3_waysWith 12 = .ok (.iadd, 1) := by decide +kernel
theorem dX3_waysWith_13 : decode cX3_waysWith 13 = .ok (.iload 4, 2) := by decide +kernel
theorem dX3_waysWith_15 : decode cX3_waysWith 15 = .ok (.iload_n 3, 1) := by decide +kernel
theorem dX3_waysWith_16 : decode cX3_waysWith 16 = .ok (.isub, 1) := by decide +kernel
theorem dX3_waysWith_17 : decode cX3_waysWith 17 = .ok (.iconst 0, 1) := by decide +kernel
theorem dX3_waysWith_18 : decode cX3_waysWith 18 = .ok (.invokestatic 43, 3) := by decide +kernel
theorem dX3_waysWith_21 : decode cX3_waysWith 21 = .ok (.invokevirtual 29, 3) := by decide +kernel
theorem dX3_waysWith_24 : decode cX3_waysWith 24 = .ok (.imul, 1) := by decide +kernel
theorem dX3_waysWith_25 : decode cX3_waysWith 25 = .ok (.ireturn, 1) := by decide +kernel
theorem dX3_getMost_0 : decode cX3_getMost 0 = .ok (.iload_n 1, 1) := by decide +kernel
theorem dX3_getMost_1 : decode cX3_getMost 1 = .ok (.ifCond .lt 23, 3) := by decide +kernel
theorem dX3_getMost_4 : decode cX3_getMost 4 = .ok (.iload_n 1, 1) := by decide +kernel
theorem dX3_getMost_5 : decode cX3_getMost 5 = .ok (.bipush 6, 2) := by decide +kernel
theorem dX3_getMost_7 : decode cX3_getMost 7 = .ok (.if_icmp .gt 17, 3) := by decide +kernel
theorem dX3_getMost_10 : decode cX3_getMost 10 = .ok (.iload_n 2, 1) := by decide +kernel
theorem dX3_getMost_11 : decode cX3_getMost 11 = .ok (.ifCond .lt 13, 3) := by decide +kernel
theorem dX3_getMost_14 : decode cX3_getMost 14 = .ok (.iload_n 2, 1) := by decide +kernel
theorem dX3_getMost_15 : decode cX3_getMost 15 = .ok (.bipush 31, 2) := by decide +kernel
theorem dX3_getMost_17 : decode cX3_getMost 17 = .ok (.if_icmp .ge 7, 3) := by decide +kernel
theorem dX3_getMost_20 : decode cX3_getMost 20 = .ok (.iconst 1, 1) := by decide +kernel
theorem dX3_getMost_21 : decode cX3_getMost 21 = .ok (.goto 4, 3) := by decide +kernel
theorem dX3_getMost_24 : decode cX3_getMost 24 = .ok (.iconst 0, 1) := by decide +kernel
theorem dX3_getMost_25 : decode cX3_getMost 25 = .ok (.istore_n 3, 1) := by decide +kernel
theorem dX3_getMost_26 : decode cX3_getMost 26 = .ok (.iload_n 3, 1) := by decide +kernel
theorem dX3_getMost_27 : decode cX3_getMost 27 = .ok (.ifCond .eq 17, 3) := by decide +kernel
theorem dX3_getMost_30 : decode cX3_getMost 30 = .ok (.aload_n 0, 1) := by decide +kernel
theorem dX3_getMost_31 : decode cX3_getMost 31 = .ok (.getfield 9, 3) := by decide +kernel
theorem dX3_getMost_34 : decode cX3_getMost 34 = .ok (.iload_n 1, 1) := by decide +kernel
theorem dX3_getMost_35 : decode cX3_getMost 35 = .ok (.bipush 31, 2) := by decide +kernel
theorem dX3_getMost_37 : decode cX3_getMost 37 = .ok (.imul, 1) := by decide +kernel
theorem dX3_getMost_38 : decode cX3_getMost 38 = .ok (.iload_n 2, 1) := by decide +kernel
theorem dX3_getMost_39 : decode cX3_getMost 39 = .ok (.iadd, 1) := by decide +kernel
theorem dX3_getMost_40 : decode cX3_getMost 40 = .ok (.iaload, 1) := by decide +kernel
theorem dX3_getMost_41 : decode cX3_getMost 41 = .ok (.goto 4, 3) := by decide +kernel
theorem dX3_getMost_44 : decode cX3_getMost 44 = .ok (.iconst 0, 1) := by decide +kernel
theorem dX3_getMost_45 : decode cX3_getMost 45 = .ok (.ireturn, 1) := by decide +kernel
theorem dX3_setMost_0 : decode cX3_setMost 0 = .ok (.iload_n 1, 1) := by decide +kernel
theorem dX3_setMost_1 : decode cX3_setMost 1 = .ok (.ifCond .lt 31, 3) := by decide +kernel
theorem dX3_setMost_4 : decode cX3_setMost 4 = .ok (.iload_n 1, 1) := by decide +kernel
theorem dX3_setMost_5 : decode cX3_setMost 5 = .ok (.bipush 6, 2) := by decide +kernel
theorem dX3_setMost_7 : decode cX3_setMost 7 = .ok (.if_icmp .gt 25, 3) := by decide +kernel
theorem dX3_setMost_10 : decode cX3_setMost 10 = .ok (.iload_n 2, 1) := by decide +kernel
theorem dX3_setMost_11 : decode cX3_setMost 11 = .ok (.ifCond .lt 21, 3) := by decide +kernel
theorem dX3_setMost_14 : decode cX3_setMost 14 = .ok (.iload_n 2, 1) := by decide +kernel
theorem dX3_setMost_15 : decode cX3_setMost 15 = .ok (.bipush 31, 2) := by decide +kernel
theorem dX3_setMost_17 : decode cX3_setMost 17 = .ok (.if_icmp .ge 15, 3) := by decide +kernel
theorem dX3_setMost_20 : decode cX3_setMost 20 = .ok (.aload_n 0, 1) := by decide +kernel
theorem dX3_setMost_21 : decode cX3_setMost 21 = .ok (.getfield 9, 3) := by decide +kernel
theorem dX3_setMost_24 : decode cX3_setMost 24 = .ok (.iload_n 1, 1) := by decide +kernel
theorem dX3_setMost_25 : decode cX3_setMost 25 = .ok (.bipush 31, 2) := by decide +kernel
theorem dX3_setMost_27 : decode cX3_setMost 27 = .ok (.imul, 1) := by decide +kernel
theorem dX3_setMost_28 : decode cX3_setMost 28 = .ok (.iload_n 2, 1) := by decide +kernel
theorem dX3_setMost_29 : decode cX3_setMost 29 = .ok (.iadd, 1) := by decide +kernel
theorem dX3_setMost_30 : decode cX3_setMost 30 = .ok (.iload_n 3, 1) := by decide +kernel
theorem dX3_setMost_31 : decode cX3_setMost 31 = .ok (.iastore, 1) := by decide +kernel
theorem dX3_setMost_32 : decode cX3_setMost 32 = .ok (.return_, 1) := by decide +kernel
theorem dX4_init_0 : decode cX4_init 0 = .ok (.aload_n 0, 1) := by decide +kernel
theorem dX4_init_1 : decode cX4_init 1 = .ok (.invokespecial 3, 3) := by decide +kernel
theorem dX4_init_4 : decode cX4_init 4 = .ok (.aload_n 0, 1) := by decide +kernel
theorem dX4_init_5 : decode cX4_init 5 = .ok (.new 9, 3) := by decide +kernel
theorem dX4_init_8 : decode cX4_init 8 = .ok (.dup, 1) := by decide +kernel
theorem dX4_init_9 : decode cX4_init 9 = .ok (.invokespecial 11, 3) := by decide +kernel
theorem dX4_init_12 : decode cX4_init 12 = .ok (.putfield 12, 3) := by decide +kernel
theorem dX4_init_15 : decode cX4_init 15 = .ok (.aload_n 0, 1) := by decide +kernel
theorem dX4_init_16 : decode cX4_init 16 = .ok (.new 9, 3) := by decide +kernel
theorem dX4_init_19 : decode cX4_init 19 = .ok (.dup, 1) := by decide +kernel
theorem dX4_init_20 : decode cX4_init 20 = .ok (.invokespecial 11, 3) := by decide +kernel
theorem dX4_init_23 : decode cX4_init 23 = .ok (.putfield 18, 3) := by decide +kernel
theorem dX4_init_26 : decode cX4_init 26 = .ok (.aload_n 0, 1) := by decide +kernel
theorem dX4_init_27 : decode cX4_init 27 = .ok (.new 21, 3) := by decide +kernel
theorem dX4_init_30 : decode cX4_init 30 = .ok (.dup, 1) := by decide +kernel
theorem dX4_init_31 : decode cX4_init 31 = .ok (.invokespecial 23, 3) := by decide +kernel
theorem dX4_init_34 : decode cX4_init 34 = .ok (.putfield 24, 3) := by decide +kernel
theorem dX4_init_37 : decode cX4_init 37 = .ok (.aload_n 0, 1) := by decide +kernel
theorem dX4_init_38 : decode cX4_init 38 = .ok (.iconst 0, 1) := by decide +kernel
theorem dX4_init_39 : decode cX4_init 39 = .ok (.putfield 28, 3) := by decide +kernel
theorem dX4_init_42 : decode cX4_init 42 = .ok (.aload_n 0, 1) := by decide +kernel
theorem dX4_init_43 : decode cX4_init 43 = .ok (.bipush 10, 2) := by decide +kernel
theorem dX4_init_45 : decode cX4_init 45 = .ok (.putfield 32, 3) := by decide +kernel
theorem dX4_init_48 : decode cX4_init 48 = .ok (.aload_n 0, 1) := by decide +kernel
theorem dX4_init_49 : decode cX4_init 49 = .ok (.iconst 1, 1) := by decide +kernel
theorem dX4_init_50 : decode cX4_init 50 = .ok (.putfield 35, 3) := by decide +kernel
theorem dX4_init_53 : decode cX4_init 53 = .ok (.return_, 1) := by decide +kernel
theorem dX4_addEmptyPart_0 : decode cX4_addEmptyPart 0 = .ok (.aload_n 0, 1) := by decide +kernel
theorem dX4_addEmptyPart_1 : decode cX4_addEmptyPart 1 = .ok (.dup, 1) := by decide +kernel
theorem dX4_addEmptyPart_2 : decode cX4_addEmptyPart 2 = .ok (.getfield 28, 3) := by decide +kernel
theorem dX4_addEmptyPart_5 : decode cX4_addEmptyPart 5 = .ok (.iconst 1, 1) := by decide +kernel
theorem dX4_addEmptyPart_6 : decode cX4_addEmptyPart 6 = .ok (.iadd, 1) := by decide +kernel
theorem dX4_addEmptyPart_7 : decode cX4_addEmptyPart 7 = .ok (.putfield 28, 3) := by decide +kernel
theorem dX4_addEmptyPart_10 : decode cX4_addEmptyPart 10 = .ok (.aload_n 0, 1) := by decide +kernel
theorem dX4_addEmptyPart_11 : decode cX4_addEmptyPart 11 = .ok (.getfield 24, 3) := by decide +kernel
theorem dX4_addEmptyPart_14 : decode cX4_addEmptyPart 14 = .ok (.invokevirtual 38, 3) := by decide +kernel
theorem dX4_addEmptyPart_17 : decode cX4_addEmptyPart 17 = .ok (.aload_n 0, 1) := by decide +kernel
theorem dX4_addEmptyPart_18 : decode cX4_addEmptyPart 18 = .ok (.getfield 28, 3) := by decide +kernel
theorem dX4_addEmptyPart_21 : decode cX4_addEmptyPart 21 = .ok (.iconst 1, 1) := by decide +kernel
theorem dX4_addEmptyPart_22 : decode cX4_addEmptyPart 22 = .ok (.isub, 1) := by decide +kernel
theorem dX4_addEmptyPart_23 : decode cX4_addEmptyPart 23 = .ok (.ireturn, 1) := by decide +kernel
theorem dX4_dropPart_0 : decode cX4_dropPart 0 = .ok (.aload_n 0, 1) := by decide +kernel
theorem dX4_dropPart_1 : decode cX4_dropPart 1 = .ok (.getfield 12, 3) := by decide +kernel
theorem dX4_dropPart_4 : decode cX4_dropPart 4 = .ok (.iload_n 1, 1) := by decide +kernel
theorem dX4_dropPart_5 : decode cX4_dropPart 5 = .ok (.invokevirtual 41, 3) := by decide +kernel
theorem dX4_dropPart_8 : decode cX4_dropPart 8 = .ok (.aload_n 0, 1) := by decide +kernel
theorem dX4_dropPart_9 : decode cX4_dropPart 9 = .ok (.getfield 18, 3) := by decide +kernel
theorem dX4_dropPart_12 : decode cX4_dropPart 12 = .ok (.iload_n 1, 1) := by decide +kernel
theorem dX4_dropPart_13 : decode cX4_dropPart 13 = .ok (.invokevirtual 41, 3) := by decide +kernel
theorem dX4_dropPart_16 : decode cX4_dropPart 16 = .ok (.aload_n 0, 1) := by decide +kernel
theorem dX4_dropPart_17 : decode cX4_dropPart 17 = .ok (.dup, 1) := by decide +kernel
theorem dX4_dropPart_18 : decode cX4_dropPart 18 = .ok (.getfield 28, 3) := by decide +kernel
theorem dX4_dropPart_21 : decode cX4_dropPart 21 = .ok (.iconst 1, 1) := by decide +kernel
theorem dX4_dropPart_22 : decode cX4_dropPart 22 = .ok (.isub, 1) := by decide +kernel
theorem dX4_dropPart_23 : decode cX4_dropPart 23 = .ok (.putfield 28, 3) := by decide +kernel
theorem dX4_dropPart_26 : decode cX4_dropPart 26 = .ok (.aload_n 0, 1) := by decide +kernel
theorem dX4_dropPart_27 : decode cX4_dropPart 27 = .ok (.getfield 24, 3) := by decide +kernel
theorem dX4_dropPart_30 : decode cX4_dropPart 30 = .ok (.invokevirtual 38, 3) := by decide +kernel
theorem dX4_dropPart_33 : decode cX4_dropPart 33 = .ok (.return_, 1) := by decide +kernel
theorem dX4_setBothWeights_0 : decode cX4_setBothWeights 0 = .ok (.aload_n 0, 1) := by decide +kernel
theorem dX4_setBothWeights_1 : decode cX4_setBothWeights 1 = .ok (.getfield 12, 3) := by decide +kernel
theorem dX4_setBothWeights_4 : decode cX4_setBothWeights 4 = .ok (.iload_n 1, 1) := by decide +kernel
theorem dX4_setBothWeights_5 : decode cX4_setBothWeights 5 = .ok (.iload_n 2, 1) := by decide +kernel
theorem dX4_setBothWeights_6 : decode cX4_setBothWeights 6 = .ok (.iload_n 3, 1) := by decide +kernel
theorem dX4_setBothWeights_7 : decode cX4_setBothWeights 7 = .ok (.invokevirtual 45, 3) := by decide +kernel
theorem dX4_setBothWeights_10 : decode cX4_setBothWeights 10 = .ok (.aload_n 0, 1) := by decide +kernel
theorem dX4_setBothWeights_11 : decode cX4_setBothWeights 11 = .ok (.getfield 18, 3) := by decide +kernel
theorem dX4_setBothWeights_14 : decode cX4_setBothWeights 14 = .ok (.iload_n 1, 1) := by decide +kernel
theorem dX4_setBothWeights_15 : decode cX4_setBothWeights 15 = .ok (.iload_n 2, 1) := by decide +kernel
theorem dX4_setBothWeights_16 : decode cX4_setBothWeights 16 = .ok (.iload_n 3, 1) := by decide +kernel
theorem dX4_setBothWeights_17 : decode cX4_setBothWeights 17 = .ok (.invokevirtual 45, 3) := by decide +kernel
theorem dX4_setBothWeights_20 : decode cX4_setBothWeights 20 = .ok (.return_, 1) := by decide +kernel
theorem dX4_setWeight_0 : decode cX4_setWeight 0 = .ok (.iload_n 3, 1) := by decide +kernel
theorem dX4_setWeight_1 : decode cX4_setWeight 1 = .ok (.ifCond .eq 15, 3) := by decide +kernel
theorem dX4_setWeight_4 : decode cX4_setWeight 4 = .ok (.aload_n 0, 1) := by decide +kernel
theorem dX4_setWeight_5 : decode cX4_setWeight 5 = .ok (.getfield 12, 3) := by decide +kernel
theorem dX4_setWeight_8 : decode cX4_setWeight 8 = .ok (.iload_n 1, 1) := by decide +kernel
theorem dX4_setWeight_9 : decode cX4_setWeight 9 = .ok (.iload_n 2, 1) := by decide +kernel
theorem dX4_setWeight_10 : decode cX4_setWeight 10 = .ok (.invokevirtual 49, 3) := by decide +kernel
theorem dX4_setWeight_13 : decode cX4_setWeight 13 = .ok (.ifCond .ne 13, 3) := by decide +kernel
theorem dX4_setWeight_16 : decode cX4_setWeight 16 = .ok (.aload_n 0, 1) := by decide +kernel
theorem dX4_setWeight_17 : decode cX4_setWeight 17 = .ok (.getfield 18, 3) := by decide +kernel
theorem dX4_setWeight_20 : decode cX4_setWeight 20 = .ok (.iload_n 1, 1) := by decide +kernel
theorem dX4_setWeight_21 : decode cX4_setWeight 21 = .ok (.iload_n 2, 1) := by decide +kernel
theorem dX4_setWeight_22 : decode cX4_setWeight 22 = .ok (.iload_n 3, 1) := by decide +kernel
theorem dX4_setWeight_23 : decode cX4_setWeight 23 = .ok (.invokevirtual 45, 3) := by decide +kernel
theorem dX4_setWeight_26 : decode cX4_setWeight 26 = .ok (.aload_n 0, 1) := by decide +kernel
theorem dX4_setWeight_27 : decode cX4_setWeight 27 = .ok (.getfield 12, 3) := by decide +kernel
theorem dX4_setWeight_30 : decode cX4_setWeight 30 = .ok (.iload_n 1, 1) := by decide +kernel
theorem dX4_setWeight_31 : decode cX4_setWeight 31 = .ok (.iload_n 2, 1) := by decide +kernel
theorem dX4_setWeight_32 : decode cX4_setWeight 32 = .ok (.iload_n 3, 1) := by decide +kernel
theorem dX4_setWeight_33 : decode cX4_setWeight 33 = .ok (.invokevirtual 45, 3) := by decide +kernel
theorem dX4_setWeight_36 : decode cX4_setWeight 36 = .ok (.aload_n 0, 1) := by decide +kernel
theorem dX4_setWeight_37 : decode cX4_setWeight 37 = .ok (.getfield 24, 3) := by decide +kernel
theorem dX4_setWeight_40 : decode cX4_setWeight 40 = .ok (.invokevirtual 38, 3) := by decide +kernel
theorem dX4_setWeight_43 : decode cX4_setWeight 43 = .ok (.return_, 1) := by decide +kernel
theorem dX4_setTilted_0 : decode cX4_setTilted 0 = .ok (.aload_n 0, 1) := by decide +kernel
theorem dX4_setTilted_1 : decode cX4_setTilted 1 = .ok (.getfield 18, 3) := by decide +kernel
theorem dX4_setTilted_4 : decode cX4_setTilted 4 = .ok (.iload_n 1, 1) := by decide +kernel
theorem dX4_setTilted_5 : decode cX4_setTilted 5 = .ok (.iload_n 2, 1) := by decide +kernel
theorem dX4_setTilted_6 : decode cX4_setTilted 6 = .ok (.iload_n 3, 1) := by decide +kernel
theorem dX4_setTilted_7 : decode cX4_setTilted 7 = .ok (.invokevirtual 45, 3) := by decide +kernel
theorem dX4_setTilted_10 : decode cX4_setTilted 10 = .ok (.aload_n 0, 1) := by decide +kernel
theorem dX4_setTilted_11 : decode cX4_setTilted 11 = .ok (.getfield 24, 3) := by decide +kernel
theorem dX4_setTilted_14 : decode cX4_setTilted 14 = .ok (.invokevirtual 38, 3) := by decide +kernel
theorem dX4_setTilted_17 : decode cX4_setTilted 17 = .ok (.return_, 1) := by decide +kernel
theorem dX4_tiltBy_0 : decode cX4_tiltBy 0 = .ok (.iconst 0, 1) := by decide +kernel
theorem dX4_tiltBy_1 : decode cX4_tiltBy 1 = .ok (.istore_n 2, 1) := by decide +kernel
theorem dX4_tiltBy_2 : decode cX4_tiltBy 2 = .ok (.iload_n 2, 1) := by decide +kernel
theorem dX4_tiltBy_3 : decode cX4_tiltBy 3 = .ok (.aload_n 0, 1) := by decide +kernel
theorem dX4_tiltBy_4 : decode cX4_tiltBy 4 = .ok (.getfield 28, 3) := by decide +kernel
theorem dX4_tiltBy_7 : decode cX4_tiltBy 7 = .ok (.if_icmp .ge 56, 3) := by decide +kernel
theorem dX4_tiltBy_10 : decode cX4_tiltBy 10 = .ok (.iconst 0, 1) := by decide +kernel
theorem dX4_tiltBy_11 : decode cX4_tiltBy 11 = .ok (.istore_n 3, 1) := by decide +kernel
theorem dX4_tiltBy_12 : decode cX4_tiltBy 12 = .ok (.iload_n 3, 1) := by decide +kernel
theorem dX4_tiltBy_13 : decode cX4_tiltBy 13 = .ok (.bipush 6, 2) := by decide +kernel
theorem dX4_tiltBy_15 : decode cX4_tiltBy 15 = .ok (.if_icmp .ge 42, 3) := by decide +kernel
theorem dX4_tiltBy_18 : decode cX4_tiltBy 18 = .ok (.aload_n 0, 1) := by decide +kernel
theorem dX4_tiltBy_19 : decode cX4_tiltBy 19 = .ok (.getfield 12, 3) := by decide +kernel
theorem dX4_tiltBy_22 : decode cX4_tiltBy 22 = .ok (.iload_n 2, 1) := by decide +kernel
theorem dX4_tiltBy_23 : decode cX4_tiltBy 23 = .ok (.iload_n 3, 1) := by decide +kernel
theorem dX4_tiltBy_24 : decode cX4_tiltBy 24 = .ok (.invokevirtual 49, 3) := by decide +kernel
theorem dX4_tiltBy_27 : decode cX4_tiltBy 27 = .ok (.iconst 1, 1) := by decide +kernel
theorem dX4_tiltBy_28 : decode cX4_tiltBy 28 = .ok (.iload_n 3, 1) := by decide +kernel
theorem dX4_tiltBy_29 : decode cX4_tiltBy 29 = .ok (.iload_n 1, 1) := by decide +kernel
theorem dX4_tiltBy_30 : decode cX4_tiltBy 30 = .ok (.imul, 1) := by decide +kernel
theorem dX4_tiltBy_31 : decode cX4_tiltBy 31 = .ok (.iadd, 1) := by decide +kernel
theorem dX4_tiltBy_32 : decode cX4_tiltBy 32 = .ok (.imul, 1) := by decide +kernel
theorem dX4_tiltBy_33 : decode cX4_tiltBy 33 = .ok (.istore 4, 2) := by decide +kernel
theorem dX4_tiltBy_35 : decode cX4_tiltBy 35 = .ok (.aload_n 0, 1) := by decide +kernel
theorem dX4_tiltBy_36 : decode cX4_tiltBy 36 = .ok (.getfield 18, 3) := by decide +kernel
theorem dX4_tiltBy_39 : decode cX4_tiltBy 39 = .ok (.iload_n 2, 1) := by decide +kernel
theorem dX4_tiltBy_40 : decode cX4_tiltBy 40 = .ok (.iload_n 3, 1) := by decide +kernel
theorem dX4_tiltBy_41 : decode cX4_tiltBy 41 = .ok (.iload 4, 2) := by decide +kernel
theorem dX4_tiltBy_43 : decode cX4_tiltBy 43 = .ok (.bipush 99, 2) := by decide +kernel
theorem dX4_tiltBy_45 : decode cX4_tiltBy 45 = .ok (.invokestatic 53, 3) := by decide +kernel
theorem dX4_tiltBy_48 : decode cX4_tiltBy 48 = .ok (.invokevirtual 45, 3) := by decide +kernel
theorem dX4_tiltBy_51 : decode cX4_tiltBy 51 = .ok (.iinc 3 1, 3) := by decide +kernel
theorem dX4_tiltBy_54 : decode cX4_tiltBy 54 = .ok (.goto (-42), 3) := by decide +kernel
theorem dX4_tiltBy_57 : decode cX4_tiltBy 57 = .ok (.iinc 2 1, 3) := by decide +kernel
theorem dX4_tiltBy_60 : decode cX4_tiltBy 60 = .ok (.goto (-58), 3) := by decide +kernel
theorem dX4_tiltBy_63 : decode cX4_tiltBy 63 = .ok (.aload_n 0, 1) := by decide +kernel
theorem dX4_tiltBy_64 : decode cX4_tiltBy 64 = .ok (.getfield 24, 3) := by decide +kernel
theorem dX4_tiltBy_67 : decode cX4_tiltBy 67 = .ok (.invokevirtual 38, 3) := by decide +kernel
theorem dX4_tiltBy_70 : decode cX4_tiltBy 70 = .ok (.return_, 1) := by decide +kernel
theorem dX4_setLimit_0 : decode cX4_setLimit 0 = .ok (.aload_n 0, 1) := by decide +kernel
theorem dX4_setLimit_1 : decode cX4_setLimit 1 = .ok (.iload_n 1, 1) := by decide +kernel
theorem dX4_setLimit_2 : decode cX4_setLimit 2 = .ok (.putfield 32, 3) := by decide +kernel
theorem dX4_setLimit_5 : decode cX4_setLimit 5 = .ok (.aload_n 0, 1) := by decide +kernel
theorem dX4_setLimit_6 : decode cX4_setLimit 6 = .ok (.getfield 24, 3) := by decide +kernel
theorem dX4_setLimit_9 : decode cX4_setLimit 9 = .ok (.invokevirtual 38, 3) := by decide +kernel
theorem dX4_setLimit_12 : decode cX4_setLimit 12 = .ok (.return_, 1) := by decide +kernel
theorem dX4_sumOfTiltedTotals_0 : decode cX4_sumOfTiltedTotals 0 = .ok (.iconst 0, 1) := by decide +kernel
theorem dX4_sumOfTiltedTotals_1 : decode cX4_sumOfTiltedTotals 1 = .ok (.istore_n 1, 1) := by decide +kernel
theorem dX4_sumOfTiltedTotals_2 : decode cX4_sumOfTiltedTotals 2 = .ok (.iconst 0, 1) := by decide +kernel
theorem dX4_sumOfTiltedTotals_3 : decode cX4_sumOfTiltedTotals 3 = .ok (.istore_n 2, 1) := by decide +kernel
theorem dX4_sumOfTiltedTotals_4 : decode cX4_sumOfTiltedTotals 4 = .ok (.iload_n 2, 1) := by decide +kernel
theorem dX4_sumOfTiltedTotals_5 : decode cX4_sumOfTiltedTotals 5 = .ok (.aload_n 0, 1) := by decide +kernel
theorem dX4_sumOfTiltedTotals_6 : decode cX4_sumOfTiltedTotals 6 = .ok (.getfield 28, 3) := by decide +kernel
theorem dX4_sumOfTiltedTotals_9 : decode cX4_sumOfTiltedTotals 9 = .ok (.if_icmp .ge 20, 3) := by decide +kernel
theorem dX4_sumOfTiltedTotals_12 : decode cX4_sumOfTiltedTotals 12 = .ok (.iload_n 1, 1) := by decide +kernel
theorem dX4_sumOfTiltedTotals_13 : decode cX4_sumOfTiltedTotals 13 = .ok (.aload_n 0, 1) := by decide +kernel
theorem dX4_sumOfTiltedTotals_14 : decode cX4_sumOfTiltedTotals 14 = .ok (.getfield 18, 3) := by decide +kernel
theorem dX4_sumOfTiltedTotals_17 : decode cX4_sumOfTiltedTotals 17 = .ok (.iload_n 2, 1) := by decide +kernel
theorem dX4_sumOfTiltedTotals_18 : decode cX4_sumOfTiltedTotals 18 = .ok (.invokevirtual 58, 3) := by decide +kernel
theorem dX4_sumOfTiltedTotals_21 : decode cX4_sumOfTiltedTotals 21 = .ok (.iadd, 1) := by decide +kernel
theorem dX4_sumOfTiltedTotals_22 : decode cX4_sumOfTiltedTotals 22 = .ok (.istore_n 1, 1) := by decide +kernel
theorem dX4_sumOfTiltedTotals_23 : decode cX4_sumOfTiltedTotals 23 = .ok (.iinc 2 1, 3) := by decide +kernel
theorem dX4_sumOfTiltedTotals_26 : decode cX4_sumOfTiltedTotals 26 = .ok (.goto (-22), 3) := by decide +kernel
theorem dX4_sumOfTiltedTotals_29 : decode cX4_sumOfTiltedTotals 29 = .ok (.iload_n 1, 1) := by decide +kernel
theorem dX4_sumOfTiltedTotals_30 : decode cX4_sumOfTiltedTotals 30 = .ok (.ireturn, 1) := by decide +kernel
theorem dX4_leastSum_0 : decode cX4_leastSum 0 = .ok (.iconst 0, 1) := by decide +kernel
theorem dX4_leastSum_1 : decode cX4_leastSum 1 = .ok (.istore_n 1, 1) := by decide +kernel
theorem dX4_leastSum_2 : decode cX4_leastSum 2 = .ok (.iconst 0, 1) := by decide +kernel
theorem dX4_leastSum_3 : decode cX4_leastSum 3 = .ok (.istore_n 2, 1) := by decide +kernel
theorem dX4_leastSum_4 : decode cX4_leastSum 4 = .ok (.iload_n 2, 1) := by decide +kernel
theorem dX4_leastSum_5 : decode cX4_leastSum 5 = .ok (.aload_n 0, 1) := by decide +kernel
theorem dX4_leastSum_6 : decode cX4_leastSum 6 = .ok (.getfield 28, 3) := by decide +kernel
theorem dX4_leastSum_9 : decode cX4_leastSum 9 = .ok (.if_icmp .ge 20, 3) := by decide +kernel
theorem dX4_leastSum_12 : decode cX4_leastSum 12 = .ok (.iload_n 1, 1) := by decide +kernel
theorem dX4_leastSum_13 : decode cX4_leastSum 13 = .ok (.aload_n 0, 1) := by decide +kernel
theorem dX4_leastSum_14 : decode cX4_leastSum 14 = .ok (.getfield 12, 3) := by decide +kernel
theorem dX4_leastSum_17 : decode cX4_leastSum 17 = .ok (.iload_n 2, 1) := by decide +kernel
theorem dX4_leastSum_18 : decode cX4_leastSum 18 = .ok (.invokevirtual 62, 3) := by decide +kernel
theorem dX4_leastSum_21 : decode cX4_leastSum 21 = .ok (.iadd, 1) := by decide +kernel
theorem dX4_leastSum_22 : decode cX4_leastSum 22 = .ok (.istore_n 1, 1) := by decide +kernel
theorem dX4_leastSum_23 : decode cX4_leastSum 23 = .ok (.iinc 2 1, 3) := by decide +kernel
theorem dX4_leastSum_26 : decode cX4_leastSum 26 = .ok (.goto (-22), 3) := by decide +kernel
theorem dX4_leastSum_29 : decode cX4_leastSum 29 = .ok (.iload_n 1, 1) := by decide +kernel
theorem dX4_leastSum_30 : decode cX4_leastSum 30 = .ok (.ireturn, 1) := by decide +kernel
theorem dX4_greatestSum_0 : decode cX4_greatestSum 0 = .ok (.iconst 0, 1) := by decide +kernel
theorem dX4_greatestSum_1 : decode cX4_greatestSum 1 = .ok (.istore_n 1, 1) := by decide +kernel
theorem dX4_greatestSum_2 : decode cX4_greatestSum 2 = .ok (.iconst 0, 1) := by decide +kernel
theorem dX4_greatestSum_3 : decode cX4_greatestSum 3 = .ok (.istore_n 2, 1) := by decide +kernel
theorem dX4_greatestSum_4 : decode cX4_greatestSum 4 = .ok (.iload_n 2, 1) := by decide +kernel
theorem dX4_greatestSum_5 : decode cX4_greatestSum 5 = .ok (.aload_n 0, 1) := by decide +kernel
theorem dX4_greatestSum_6 : decode cX4_greatestSum 6 = .ok (.getfield 28, 3) := by decide +kernel
theorem dX4_greatestSum_9 : decode cX4_greatestSum 9 = .ok (.if_icmp .ge 20, 3) := by decide +kernel
theorem dX4_greatestSum_12 : decode cX4_greatestSum 12 = .ok (.iload_n 1, 1) := by decide +kernel
theorem dX4_greatestSum_13 : decode cX4_greatestSum 13 = .ok (.aload_n 0, 1) := by decide +kernel
theorem dX4_greatestSum_14 : decode cX4_greatestSum 14 = .ok (.getfield 12, 3) := by decide +kernel
theorem dX4_greatestSum_17 : decode cX4_greatestSum 17 = .ok (.iload_n 2, 1) := by decide +kernel
theorem dX4_greatestSum_18 : decode cX4_greatestSum 18 = .ok (.invokevirtual 65, 3) := by decide +kernel
theorem dX4_greatestSum_21 : decode cX4_greatestSum 21 = .ok (.iadd, 1) := by decide +kernel
theorem dX4_greatestSum_22 : decode cX4_greatestSum 22 = .ok (.istore_n 1, 1) := by decide +kernel
theorem dX4_greatestSum_23 : decode cX4_greatestSum 23 = .ok (.iinc 2 1, 3) := by decide +kernel
theorem dX4_greatestSum_26 : decode cX4_greatestSum 26 = .ok (.goto (-22), 3) := by decide +kernel
theorem dX4_greatestSum_29 : decode cX4_greatestSum 29 = .ok (.iload_n 1, 1) := by decide +kernel
theorem dX4_greatestSum_30 : decode cX4_greatestSum 30 = .ok (.ireturn, 1) := by decide +kernel
theorem dX4_drawRow_0 : decode cX4_drawRow 0 = .ok (.iconst 0, 1) := by decide +kernel
theorem dX4_drawRow_1 : decode cX4_drawRow 1 = .ok (.istore_n 1, 1) := by decide +kernel
theorem dX4_drawRow_2 : decode cX4_drawRow 2 = .ok (.dconst 1, 1) := by decide +kernel
theorem dX4_drawRow_3 : decode cX4_drawRow 3 = .ok (.dstore_n 2, 1) := by decide +kernel
theorem dX4_drawRow_4 : decode cX4_drawRow 4 = .ok (.iconst 0, 1) := by decide +kernel
theorem dX4_drawRow_5 : decode cX4_drawRow 5 = .ok (.istore 4, 2) := by decide +kernel
theorem dX4_drawRow_7 : decode cX4_drawRow 7 = .ok (.iload 4, 2) := by decide +kernel
theorem dX4_drawRow_9 : decode cX4_drawRow 9 = .ok (.aload_n 0, 1) := by decide +kernel
theorem dX4_drawRow_10 : decode cX4_drawRow 10 = .ok (.getfield 28, 3) := by decide +kernel
theorem dX4_drawRow_13 : decode cX4_drawRow 13 = .ok (.if_icmp .ge 43, 3) := by decide +kernel
theorem dX4_drawRow_16 : decode cX4_drawRow 16 = .ok (.aload_n 0, 1) := by decide +kernel
theorem dX4_drawRow_17 : decode cX4_drawRow 17 = .ok (.iload 4, 2) := by decide +kernel
theorem dX4_drawRow_19 : decode cX4_drawRow 19 = .ok (.invokevirtual 68, 3) := by decide +kernel
theorem dX4_drawRow_22 : decode cX4_drawRow 22 = .ok (.istore 5, 2) := by decide +kernel
theorem dX4_drawRow_24 : decode cX4_drawRow 24 = .ok (.aload_n 0, 1) := by decide +kernel
theorem dX4_drawRow_25 : decode cX4_drawRow 25 = .ok (.getfield 24, 3) := by decide +kernel
theorem dX4_drawRow_28 : decode cX4_drawRow 28 = .ok (.iload 4, 2) := by decide +kernel
theorem dX4_drawRow_30 : decode cX4_drawRow 30 = .ok (.iload 5, 2) := by decide +kernel
theorem dX4_drawRow_32 : decode cX4_drawRow 32 = .ok (.invokevirtual 71, 3) := by decide +kernel
theorem dX4_drawRow_35 : decode cX4_drawRow 35 = .ok (.iload_n 1, 1) := by decide +kernel
theorem dX4_drawRow_36 : decode cX4_drawRow 36 = .ok (.iload 5, 2) := by decide +kernel
theorem dX4_drawRow_38 : decode cX4_drawRow 38 = .ok (.iadd, 1) := by decide +kernel
theorem dX4_drawRow_39 : decode cX4_drawRow 39 = .ok (.istore_n 1, 1) := by decide +kernel
theorem dX4_drawRow_40 : decode cX4_drawRow 40 = .ok (.aload_n 0, 1) := by decide +kernel
theorem dX4_drawRow_41 : decode cX4_drawRow 41 = .ok (.dload_n 2, 1) := by decide +kernel
theorem dX4_drawRow_42 : decode cX4_drawRow 42 = .ok (.iload 4, 2) := by decide +kernel
theorem dX4_drawRow_44 : decode cX4_drawRow 44 = .ok (.iload 5, 2) := by decide +kernel
theorem dX4_drawRow_46 : decode cX4_drawRow 46 = .ok (.invokevirtual 75, 3) := by decide +kernel
theorem dX4_drawRow_49 : decode cX4_drawRow 49 = .ok (.dstore_n 2, 1) := by decide +kernel
theorem dX4_drawRow_50 : decode cX4_drawRow 50 = .ok (.iinc 4 1, 3) := by decide +kernel
theorem dX4_drawRow_53 : decode cX4_drawRow 53 = .ok (.goto (-46), 3) := by decide +kernel
theorem dX4_drawRow_56 : decode cX4_drawRow 56 = .ok (.aload_n 0, 1) := by decide +kernel
theorem dX4_drawRow_57 : decode cX4_drawRow 57 = .ok (.getfield 24, 3) := by decide +kernel
theorem dX4_drawRow_60 : decode cX4_drawRow 60 = .ok (.dload_n 2, 1) := by decide +kernel
theorem dX4_drawRow_61 : decode cX4_drawRow 61 = .ok (.iload_n 1, 1) := by decide +kernel
theorem dX4_drawRow_62 : decode cX4_drawRow 62 = .ok (.aload_n 0, 1) := by decide +kernel
theorem dX4_drawRow_63 : decode cX4_drawRow 63 = .ok (.getfield 32, 3) := by decide +kernel
theorem dX4_drawRow_66 : decode cX4_drawRow 66 = .ok (.if_icmp .lt 7, 3) := by decide +kernel
theorem dX4_drawRow_69 : decode cX4_drawRow 69 = .ok (.iconst 1, 1) := by decide +kernel
theorem dX4_drawRow_70 : decode cX4_drawRow 70 = .ok (.goto 4, 3) := by decide +kernel
theorem dX4_drawRow_73 : decode cX4_drawRow 73 = .ok (.iconst 0, 1) := by decide +kernel
theorem dX4_drawRow_74 : decode cX4_drawRow 74 = .ok (.invokevirtual 79, 3) := by decide +kernel
theorem dX4_drawRow_77 : decode cX4_drawRow 77 = .ok (.return_, 1) := by decide +kernel
theorem dX4_drawLoad_0 : decode cX4_drawLoad 0 = .ok (.aload_n 0, 1) := by decide +kernel
theorem dX4_drawLoad_1 : decode cX4_drawLoad 1 = .ok (.aload_n 0, 1) := by decide +kernel
theorem dX4_drawLoad_2 : decode cX4_drawLoad 2 = .ok (.getfield 35, 3) := by decide +kernel
theorem dX4_drawLoad_5 : decode cX4_drawLoad 5 = .ok (.i2l, 1) := by decide +kernel
theorem dX4_drawLoad_6 : decode cX4_drawLoad 6 = .ok (.ldc2_w 83, 3) := by decide +kernel
theorem dX4_drawLoad_9 : decode cX4_drawLoad 9 = .ok (.lmul, 1) := by decide +kernel
theorem dX4_drawLoad_10 : decode cX4_drawLoad 10 = .ok (.ldc2_w 85, 3) := by decide +kernel
theorem dX4_drawLoad_13 : decode cX4_drawLoad 13 = .ok (.ladd, 1) := by decide +kernel
theorem dX4_drawLoad_14 : decode cX4_drawLoad 14 = .ok (.ldc2_w 87, 3) := by decide +kernel
theorem dX4_drawLoad_17 : decode cX4_drawLoad 17 = .ok (.lrem, 1) := by decide +kernel
theorem dX4_drawLoad_18 : decode cX4_drawLoad 18 = .ok (.l2i, 1) := by decide +kernel
theorem dX4_drawLoad_19 : decode cX4_drawLoad 19 = .ok (.putfield 35, 3) := by decide +kernel
theorem dX4_drawLoad_22 : decode cX4_drawLoad 22 = .ok (.aload_n 0, 1) := by decide +kernel
theorem dX4_drawLoad_23 : decode cX4_drawLoad 23 = .ok (.getfield 18, 3) := by decide +kernel
theorem dX4_drawLoad_26 : decode cX4_drawLoad 26 = .ok (.iload_n 1, 1) := by decide +kernel
theorem dX4_drawLoad_27 : decode cX4_drawLoad 27 = .ok (.invokevirtual 58, 3) := by decide +kernel
theorem dX4_drawLoad_30 : decode cX4_drawLoad 30 = .ok (.istore_n 2, 1) := by decide +kernel
theorem dX4_drawLoad_31 : decode cX4_drawLoad 31 = .ok (.iload_n 2, 1) := by decide +kernel
theorem dX4_drawLoad_32 : decode cX4_drawLoad 32 = .ok (.ifCond .le 15, 3) := by decide +kernel
theorem dX4_drawLoad_35 : decode cX4_drawLoad 35 = .ok (.aload_n 0, 1) := by decide +kernel
theorem dX4_drawLoad_36 : decode cX4_drawLoad 36 = .ok (.getfield 35, 3) := by decide +kernel
theorem dX4_drawLoad_39 : decode cX4_drawLoad 39 = .ok (.ldc 89, 2) := by decide +kernel
theorem dX4_drawLoad_41 : decode cX4_drawLoad 41 = .ok (.idiv, 1) := by decide +kernel
theorem dX4_drawLoad_42 : decode cX4_drawLoad 42 = .ok (.iload_n 2, 1) := by decide +kernel
theorem dX4_drawLoad_43 : decode cX4_drawLoad 43 = .ok (.irem, 1) := by decide +kernel
theorem dX4_drawLoad_44 : decode cX4_drawLoad 44 = .ok (.goto 4, 3) := by decide +kernel
theorem dX4_drawLoad_47 : decode cX4_drawLoad 47 = .ok (.iconst 0, 1) := by decide +kernel
theorem dX4_drawLoad_48 : decode cX4_drawLoad 48 = .ok (.istore_n 3, 1) := by decide +kernel
theorem dX4_drawLoad_49 : decode cX4_drawLoad 49 = .ok (.iconst 0, 1) := by decide +kernel
theorem dX4_drawLoad_50 : decode cX4_drawLoad 50 = .ok (.istore 4, 2) := by decide +kernel
theorem dX4_drawLoad_52 : decode cX4_drawLoad 52 = .ok (.iconst 0, 1) := by decide +kernel
theorem dX4_drawLoad_53 : decode cX4_drawLoad 53 = .ok (.istore 5, 2) := by decide +kernel
theorem dX4_drawLoad_55 : decode cX4_drawLoad 55 = .ok (.iload 5, 2) := by decide +kernel
theorem dX4_drawLoad_57 : decode cX4_drawLoad 57 = .ok (.bipush 6, 2) := by decide +kernel
theorem dX4_drawLoad_59 : decode cX4_drawLoad 59 = .ok (.if_icmp .ge 33, 3) := by decide +kernel
theorem dX4_drawLoad_62 : decode cX4_drawLoad 62 = .ok (.iload 4, 2) := by decide +kernel
theorem dX4_drawLoad_64 : decode cX4_drawLoad 64 = .ok (.aload_n 0, 1) := by decide +kernel
theorem dX4_drawLoad_65 : decode cX4_drawLoad 65 = .ok (.getfield 18, 3) := by decide +kernel
theorem dX4_drawLoad_68 : decode cX4_drawLoad 68 = .ok (.iload_n 1, 1) := by decide +kernel
theorem dX4_drawLoad_69 : decode cX4_drawLoad 69 = .ok (.iload 5, 2) := by decide +kernel
theorem dX4_drawLoad_71 : decode cX4_drawLoad 71 = .ok (.invokevirtual 49, 3) := by decide +kernel
theorem dX4_drawLoad_74 : decode cX4_drawLoad 74 = .ok (.iadd, 1) := by decide +kernel
theorem dX4_drawLoad_75 : decode cX4_drawLoad 75 = .ok (.istore 4, 2) := by decide +kernel
theorem dX4_drawLoad_77 : decode cX4_drawLoad 77 = .ok (.iload 4, 2) := by decide +kernel
theorem dX4_drawLoad_79 : decode cX4_drawLoad 79 = .ok (.iload_n 3, 1) := by decide +kernel
theorem dX4_drawLoad_80 : decode cX4_drawLoad 80 = .ok (.if_icmp .le 6, 3) := by decide +kernel
theorem dX4_drawLoad_83 : decode cX4_drawLoad 83 = .ok (.iload 5, 2) := by decide +kernel
theorem dX4_drawLoad_85 : decode cX4_drawLoad 85 = .ok (.ireturn, 1) := by decide +kernel
theorem dX4_drawLoad_86 : decode cX4_drawLoad 86 = .ok (.iinc 5 1, 3) := by decide +kernel
theorem dX4_drawLoad_89 : decode cX4_drawLoad 89 = .ok (.goto (-34), 3) := by decide +kernel
theorem dX4_drawLoad_92 : decode cX4_drawLoad 92 = .ok (.iconst 5, 1) := by decide +kernel
theorem dX4_drawLoad_93 : decode cX4_drawLoad 93 = .ok (.ireturn, 1) := by decide +kernel
theorem dX4_corrected_0 : decode cX4_corrected 0 = .ok (.aload_n 0, 1) := by decide +kernel
theorem dX4_corrected_1 : decode cX4_corrected 1 = .ok (.getfield 12, 3) := by decide +kernel
theorem dX4_corrected_4 : decode cX4_corrected 4 = .ok (.iload_n 3, 1) := by decide +kernel
theorem dX4_corrected_5 : decode cX4_corrected 5 = .ok (.invokevirtual 58, 3) := by decide +kernel
theorem dX4_corrected_8 : decode cX4_corrected 8 = .ok (.istore 5, 2) := by decide +kernel
theorem dX4_corrected_10 : decode cX4_corrected 10 = .ok (.aload_n 0, 1) := by decide +kernel
theorem dX4_corrected_11 : decode cX4_corrected 11 = .ok (.getfield 18, 3) := by decide +kernel
theorem dX4_corrected_14 : decode cX4_corrected 14 = .ok (.iload_n 3, 1) := by decide +kernel
theorem dX4_corrected_15 : decode cX4_corrected 15 = .ok (.iload 4, 2) := by decide +kernel
theorem dX4_corrected_17 : decode cX4_corrected 17 = .ok (.invokevirtual 49, 3) := by decide +kernel
theorem dX4_corrected_20 : decode cX4_corrected 20 = .ok (.istore 6, 2) := by decide +kernel
theorem dX4_corrected_22 : decode cX4_corrected 22 = .ok (.iload 5, 2) := by decide +kernel
theorem dX4_corrected_24 : decode cX4_corrected 24 = .ok (.ifCond .le 8, 3) := by decide +kernel
theorem dX4_corrected_27 : decode cX4_corrected 27 = .ok (.iload 6, 2) := by decide +kernel
theorem dX4_corrected_29 : decode cX4_corrected 29 = .ok (.ifCond .gt 5, 3) := by decide +kernel
theorem dX4_corrected_32 : decode cX4_corrected 32 = .ok (.dconst 0, 1) := by decide +kernel
theorem dX4_corrected_33 : decode cX4_corrected 33 = .ok (.dreturn, 1) := by decide +kernel
theorem dX4_corrected_34 : decode cX4_corrected 34 = .ok (.dload_n 1, 1) := by decide +kernel
theorem dX4_corrected_35 : decode cX4_corrected 35 = .ok (.aload_n 0, 1) := by decide +kernel
theorem dX4_corrected_36 : decode cX4_corrected 36 = .ok (.getfield 12, 3) := by decide +kernel
theorem dX4_corrected_39 : decode cX4_corrected 39 = .ok (.iload_n 3, 1) := by decide +kernel
theorem dX4_corrected_40 : decode cX4_corrected 40 = .ok (.iload 4, 2) := by decide +kernel
theorem dX4_corrected_42 : decode cX4_corrected 42 = .ok (.invokevirtual 49, 3) := by decide +kernel
theorem dX4_corrected_45 : decode cX4_corrected 45 = .ok (.i2d, 1) := by decide +kernel
theorem dX4_corrected_46 : decode cX4_corrected 46 = .ok (.dmul, 1) := by decide +kernel
theorem dX4_corrected_47 : decode cX4_corrected 47 = .ok (.aload_n 0, 1) := by decide +kernel
theorem dX4_corrected_48 : decode cX4_corrected 48 = .ok (.getfield 18, 3) := by decide +kernel
theorem dX4_corrected_51 : decode cX4_corrected 51 = .ok (.iload_n 3, 1) := by decide +kernel
theorem dX4_corrected_52 : decode cX4_corrected 52 = .ok (.invokevirtual 58, 3) := by decide +kernel
theorem dX4_corrected_55 : decode cX4_corrected 55 = .ok (.i2d, 1) := by decide +kernel
theorem dX4_corrected_56 : decode cX4_corrected 56 = .ok (.dmul, 1) := by decide +kernel
theorem dX4_corrected_57 : decode cX4_corrected 57 = .ok (.iload 5, 2) := by decide +kernel
theorem dX4_corrected_59 : decode cX4_corrected 59 = .ok (.i2d, 1) := by decide +kernel
theorem dX4_corrected_60 : decode cX4_corrected 60 = .ok (.ddiv, 1) := by decide +kernel
theorem dX4_corrected_61 : decode cX4_corrected 61 = .ok (.iload 6, 2) := by decide +kernel
theorem dX4_corrected_63 : decode cX4_corrected 63 = .ok (.i2d, 1) := by decide +kernel
theorem dX4_corrected_64 : decode cX4_corrected 64 = .ok (.ddiv, 1) := by decide +kernel
theorem dX4_corrected_65 : decode cX4_corrected 65 = .ok (.dreturn, 1) := by decide +kernel
theorem dX4_copyFrom_0 : decode cX4_copyFrom 0 = .ok (.aload_n 0, 1) := by decide +kernel
theorem dX4_copyFrom_1 : decode cX4_copyFrom 1 = .ok (.getfield 12, 3) := by decide +kernel
theorem dX4_copyFrom_4 : decode cX4_copyFrom 4 = .ok (.aload_n 1, 1) := by decide +kernel
theorem dX4_copyFrom_5 : decode cX4_copyFrom 5 = .ok (.getfield 12, 3) := by decide +kernel
theorem dX4_copyFrom_8 : decode cX4_copyFrom 8 = .ok (.invokevirtual 90, 3) := by decide +kernel
theorem dX4_copyFrom_11 : decode cX4_copyFrom 11 = .ok (.aload_n 0, 1) := by decide +kernel
theorem dX4_copyFrom_12 : decode cX4_copyFrom 12 = .ok (.getfield 18, 3) := by decide +kernel
theorem dX4_copyFrom_15 : decode cX4_copyFrom 15 = .ok (.aload_n 1, 1) := by decide +kernel
theorem dX4_copyFrom_16 : decode cX4_copyFrom 16 = .ok (.getfield 18, 3) := by decide +kernel
theorem dX4_copyFrom_19 : decode cX4_copyFrom 19 = .ok (.invokevirtual 90, 3) := by decide +kernel
theorem dX4_copyFrom_22 : decode cX4_copyFrom 22 = .ok (.aload_n 0, 1) := by decide +kernel
theorem dX4_copyFrom_23 : decode cX4_copyFrom 23 = .ok (.getfield 24, 3) := by decide +kernel
theorem dX4_copyFrom_26 : decode cX4_copyFrom 26 = .ok (.aload_n 1, 1) := by decide +kernel
theorem dX4_copyFrom_27 : decode cX4_copyFrom 27 = .ok (.getfield 24, 3) := by decide +kernel
theorem dX4_copyFrom_30 : decode cX4_copyFrom 30 = .ok (.invokevirtual 94, 3) := by decide +kernel
theorem dX4_copyFrom_33 : decode cX4_copyFrom 33 = .ok (.aload_n 0, 1) := by decide +kernel
theorem dX4_copyFrom_34 : decode cX4_copyFrom 34 = .ok (.aload_n 1, 1) := by decide +kernel
theorem dX4_copyFrom_35 : decode cX4_copyFrom 35 = .ok (.getfield 28, 3) := by decide +kernel
theorem dX4_copyFrom_38 : decode cX4_copyFrom 38 = .ok (.putfield 28, 3) := by decide +kernel
theorem dX4_copyFrom_41 : decode cX4_copyFrom 41 = .ok (.aload_n 0, 1) := by decide +kernel
theorem dX4_copyFrom_42 : decode cX4_copyFrom 42 = .ok (.aload_n 1, 1) := by decide +kernel
theorem dX4_copyFrom_43 : decode cX4_copyFrom 43 = .ok (.getfield 32, 3) := by decide +kernel
theorem dX4_copyFrom_46 : decode cX4_copyFrom 46 = .ok (.putfield 32, 3) := by decide +kernel
theorem dX4_copyFrom_49 : decode cX4_copyFrom 49 = .ok (.aload_n 0, 1) := by decide +kernel
theorem dX4_copyFrom_50 : decode cX4_copyFrom 50 = .ok (.aload_n 1, 1) := by decide +kernel
theorem dX4_copyFrom_51 : decode cX4_copyFrom 51 = .ok (.getfield 35, 3) := by decide +kernel
theorem dX4_copyFrom_54 : decode cX4_copyFrom 54 = .ok (.putfield 35, 3) := by decide +kernel
theorem dX4_copyFrom_57 : decode cX4_copyFrom 57 = .ok (.return_, 1) := by decide +kernel
theorem dX5_init_0 : decode cX5_init 0 = .ok (.aload_n 0, 1) := by decide +kernel
theorem dX5_init_1 : decode cX5_init 1 = .ok (.invokespecial 3, 3) := by decide +kernel
theorem dX5_init_4 : decode cX5_init 4 = .ok (.aload_n 0, 1) := by decide +kernel
theorem dX5_init_5 : decode cX5_init 5 = .ok (.bipush 6, 2) := by decide +kernel
theorem dX5_init_7 : decode cX5_init 7 = .ok (.newarray .int, 2) := by decide +kernel
theorem dX5_init_9 : decode cX5_init 9 = .ok (.putfield 9, 3) := by decide +kernel
theorem dX5_init_12 : decode cX5_init 12 = .ok (.return_, 1) := by decide +kernel
theorem dX5_clear_0 : decode cX5_clear 0 = .ok (.aload_n 0, 1) := by decide +kernel
theorem dX5_clear_1 : decode cX5_clear 1 = .ok (.iconst 0, 1) := by decide +kernel
theorem dX5_clear_2 : decode cX5_clear 2 = .ok (.putfield 15, 3) := by decide +kernel
theorem dX5_clear_5 : decode cX5_clear 5 = .ok (.aload_n 0, 1) := by decide +kernel
theorem dX5_clear_6 : decode cX5_clear 6 = .ok (.iconst 0, 1) := by decide +kernel
theorem dX5_clear_7 : decode cX5_clear 7 = .ok (.putfield 19, 3) := by decide +kernel
theorem dX5_clear_10 : decode cX5_clear 10 = .ok (.aload_n 0, 1) := by decide +kernel
theorem dX5_clear_11 : decode cX5_clear 11 = .ok (.dconst 0, 1) := by decide +kernel
theorem dX5_clear_12 : decode cX5_clear 12 = .ok (.putfield 22, 3) := by decide +kernel
theorem dX5_clear_15 : decode cX5_clear 15 = .ok (.aload_n 0, 1) := by decide +kernel
theorem dX5_clear_16 : decode cX5_clear 16 = .ok (.dconst 0, 1) := by decide +kernel
theorem dX5_clear_17 : decode cX5_clear 17 = .ok (.putfield 26, 3) := by decide +kernel
theorem dX5_clear_20 : decode cX5_clear 20 = .ok (.aload_n 0, 1) := by decide +kernel
theorem dX5_clear_21 : decode cX5_clear 21 = .ok (.dconst 0, 1) := by decide +kernel
theorem dX5_clear_22 : decode cX5_clear 22 = .ok (.putfield 29, 3) := by decide +kernel
theorem dX5_clear_25 : decode cX5_clear 25 = .ok (.aload_n 0, 1) := by decide +kernel
theorem dX5_clear_26 : decode cX5_clear 26 = .ok (.dconst 0, 1) := by decide +kernel
theorem dX5_clear_27 : decode cX5_clear 27 = .ok (.putfield 32, 3) := by decide +kernel
theorem dX5_clear_30 : decode cX5_clear 30 = .ok (.return_, 1) := by decide +kernel
theorem dX5_setLatestLoad_0 : decode cX5_setLatestLoad 0 = .ok (.iload_n 1, 1) := by decide +kernel
theorem dX5_setLatestLoad_1 : decode cX5_setLatestLoad 1 = .ok (.ifCond .lt 19, 3) := by decide +kernel
theorem dX5_setLatestLoad_4 : decode cX5_setLatestLoad 4 = .ok (.iload_n 1, 1) := by decide +kernel
theorem dX5_setLatestLoad_5 : decode cX5_setLatestLoad 5 = .ok (.aload_n 0, 1) := by decide +kernel
theorem dX5_setLatestLoad_6 : decode cX5_setLatestLoad 6 = .ok (.getfield 9, 3) := by decide +kernel
theorem dX5_setLatestLoad_9 : decode cX5_setLatestLoad 9 = .ok (.arraylength, 1) := by decide +kernel
theorem dX5_setLatestLoad_10 : decode cX5_setLatestLoad 10 = .ok (.if_icmp .ge 10, 3) := by decide +kernel
theorem dX5_setLatestLoad_13 : decode cX5_setLatestLoad 13 = .ok (.aload_n 0, 1) := by decide +kernel
theorem dX5_setLatestLoad_14 : decode cX5_setLatestLoad 14 = .ok (.getfield 9, 3) := by decide +kernel
theorem dX5_setLatestLoad_17 : decode cX5_setLatestLoad 17 = .ok (.iload_n 1, 1) := by decide +kernel
theorem dX5_setLatestLoad_18 : decode cX5_setLatestLoad 18 = .ok (.iload_n 2, 1) := by decide +kernel
theorem dX5_setLatestLoad_19 : decode cX5_setLatestLoad 19 = .ok (.iastore, 1) := by decide +kernel
theorem dX5_setLatestLoad_20 : decode cX5_setLatestLoad 20 = .ok (.return_, 1) := by decide +kernel
theorem dX5_latestLoadOf_0 : decode cX5_latestLoadOf 0 = .ok (.aload_n 0, 1) := by decide +kernel
theorem dX5_latestLoadOf_1 : decode cX5_latestLoadOf 1 = .ok (.getfield 15, 3) := by decide +kernel
theorem dX5_latestLoadOf_4 : decode cX5_latestLoadOf 4 = .ok (.ifCond .le 20, 3) := by decide +kernel
theorem dX5_latestLoadOf_7 : decode cX5_latestLoadOf 7 = .ok (.iload_n 1, 1) := by decide +kernel
theorem dX5_latestLoadOf_8 : decode cX5_latestLoadOf 8 = .ok (.ifCond .lt 16, 3) := by decide +kernel
theorem dX5_latestLoadOf_11 : decode cX5_latestLoadOf 11 = .ok (.iload_n 1, 1) := by decide +kernel
theorem dX5_latestLoadOf_12 : decode cX5_latestLoadOf 12 = .ok (.aload_n 0, 1) := by decide +kernel
theorem dX5_latestLoadOf_13 : decode cX5_latestLoadOf 13 = .ok (.getfield 9, 3) := by decide +kernel
theorem dX5_latestLoadOf_16 : decode cX5_latestLoadOf 16 = .ok (.arraylength, 1) := by decide +kernel
theorem dX5_latestLoadOf_17 : decode cX5_latestLoadOf 17 = .ok (.if_icmp .ge 7, 3) := by decide +kernel
theorem dX5_latestLoadOf_20 : decode cX5_latestLoadOf 20 = .ok (.iconst 1, 1) := by decide +kernel
theorem dX5_latestLoadOf_21 : decode cX5_latestLoadOf 21 = .ok (.goto 4, 3) := by decide +kernel
theorem dX5_latestLoadOf_24 : decode cX5_latestLoadOf 24 = .ok (.iconst 0, 1) := by decide +kernel
theorem dX5_latestLoadOf_25 : decode cX5_latestLoadOf 25 = .ok (.istore_n 2, 1) := by decide +kernel
theorem dX5_latestLoadOf_26 : decode cX5_latestLoadOf 26 = .ok (.iload_n 2, 1) := by decide +kernel
theorem dX5_latestLoadOf_27 : decode cX5_latestLoadOf 27 = .ok (.ifCond .eq 12, 3) := by decide +kernel
theorem dX5_latestLoadOf_30 : decode cX5_latestLoadOf 30 = .ok (.aload_n 0, 1) := by decide +kernel
theorem dX5_latestLoadOf_31 : decode cX5_latestLoadOf 31 = .ok (.getfield 9, 3) := by decide +kernel
theorem dX5_latestLoadOf_34 : decode cX5_latestLoadOf 34 = .ok (.iload_n 1, 1) := by decide +kernel
theorem dX5_latestLoadOf_35 : decode cX5_latestLoadOf 35 = .ok (.iaload, 1) := by decide +kernel
theorem dX5_latestLoadOf_36 : decode cX5_latestLoadOf 36 = .ok (.goto 4, 3) := by decide +kernel
theorem dX5_latestLoadOf_39 : decode cX5_latestLoadOf 39 = .ok (.iconst (-1), 1) := by decide +kernel
theorem dX5_latestLoadOf_40 : decode cX5_latestLoadOf 40 = .ok (.ireturn, 1) := by decide +kernel
theorem dX5_add_0 : decode cX5_add 0 = .ok (.aload_n 0, 1) := by decide +kernel
theorem dX5_add_1 : decode cX5_add 1 = .ok (.dup, 1) := by decide +kernel
theorem dX5_add_2 : decode cX5_add 2 = .ok (.getfield 15, 3) := by decide +kernel
theorem dX5_add_5 : decode cX5_add 5 = .ok (.iconst 1, 1) := by decide +kernel
theorem dX5_add_6 : decode cX5_add 6 = .ok (.iadd, 1) := by decide +kernel
theorem dX5_add_7 : decode cX5_add 7 = .ok (.putfield 15, 3) := by decide +kernel
theorem dX5_add_10 : decode cX5_add 10 = .ok (.iload_n 3, 1) := by decide +kernel
theorem dX5_add_11 : decode cX5_add 11 = .ok (.ifCond .eq 23, 3) := by decide +kernel
theorem dX5_add_14 : decode cX5_add 14 = .ok (.aload_n 0, 1) := by decide +kernel
theorem dX5_add_15 : decode cX5_add 15 = .ok (.dup, 1) := by decide +kernel
theorem dX5_add_16 : decode cX5_add 16 = .ok (.getfield 19, 3) := by decide +kernel
theorem dX5_add_19 : decode cX5_add 19 = .ok (.iconst 1, 1) := by decide +kernel
theorem dX5_add_20 : decode cX5_add 20 = .ok (.iadd, 1) := by decide +kernel
theorem dX5_add_21 : decode cX5_add 21 = .ok (.putfield 19, 3) := by decide +kernel
theorem dX5_add_24 : decode cX5_add 24 = .ok (.aload_n 0, 1) := by decide +kernel
theorem dX5_add_25 : decode cX5_add 25 = .ok (.dup, 1) := by decide +kernel
theorem dX5_add_26 : decode cX5_add 26 = .ok (.getfield 22, 3) := by decide +kernel
theorem dX5_add_29 : decode cX5_add 29 = .ok (.dload_n 1, 1) := by decide +kernel
theorem dX5_add_30 : decode cX5_add 30 = .ok (.dadd, 1) := by decide +kernel
theorem dX5_add_31 : decode cX5_add 31 = .ok (.putfield 22, 3) := by decide +kernel
theorem dX5_add_34 : decode cX5_add 34 = .ok (.aload_n 0, 1) := by decide +kernel
theorem dX5_add_35 : decode cX5_add 35 = .ok (.dup, 1) := by decide +kernel
theorem dX5_add_36 : decode cX5_add 36 = .ok (.getfield 26, 3) := by decide +kernel
theorem dX5_add_39 : decode cX5_add 39 = .ok (.dload_n 1, 1) := by decide +kernel
theorem dX5_add_40 : decode cX5_add 40 = .ok (.dadd, 1) := by decide +kernel
theorem dX5_add_41 : decode cX5_add 41 = .ok (.putfield 26, 3) := by decide +kernel
theorem dX5_add_44 : decode cX5_add 44 = .ok (.aload_n 0, 1) := by decide +kernel
theorem dX5_add_45 : decode cX5_add 45 = .ok (.dup, 1) := by decide +kernel
theorem dX5_add_46 : decode cX5_add 46 = .ok (.getfield 29, 3) := by decide +kernel
theorem dX5_add_49 : decode cX5_add 49 = .ok (.dload_n 1, 1) := by decide +kernel
theorem dX5_add_50 : decode cX5_add 50 = .ok (.dload_n 1, 1) := by decide +kernel
theorem dX5_add_51 : decode cX5_add 51 = .ok (.dmul, 1) := by decide +kernel
theorem dX5_add_52 : decode cX5_add 52 = .ok (.dadd, 1) := by decide +kernel
theorem dX5_add_53 : decode cX5_add 53 = .ok (.putfield 29, 3) := by decide +kernel
theorem dX5_add_56 : decode cX5_add 56 = .ok (.aload_n 0, 1) := by decide +kernel
theorem dX5_add_57 : decode cX5_add 57 = .ok (.dload_n 1, 1) := by decide +kernel
theorem dX5_add_58 : decode cX5_add 58 = .ok (.putfield 32, 3) := by decide +kernel
theorem dX5_add_61 : decode cX5_add 61 = .ok (.return_, 1) := by decide +kernel
theorem dX5_shareOf_0 : decode cX5_shareOf 0 = .ok (.aload_n 0, 1) := by decide +kernel
theorem dX5_shareOf_1 : decode cX5_shareOf 1 = .ok (.getfield 15, 3) := by decide +kernel
theorem dX5_shareOf_4 : decode cX5_shareOf 4 = .ok (.ifCond .le 13, 3) := by decide +kernel
theorem dX5_shareOf_7 : decode cX5_shareOf 7 = .ok (.dload_n 1, 1) := by decide +kernel
theorem dX5_shareOf_8 : decode cX5_shareOf 8 = .ok (.aload_n 0, 1) := by decide +kernel
theorem dX5_shareOf_9 : decode cX5_shareOf 9 = .ok (.getfield 15, 3) := by decide +kernel
theorem dX5_shareOf_12 : decode cX5_shareOf 12 = .ok (.i2d, 1) := by decide +kernel
theorem dX5_shareOf_13 : decode cX5_shareOf 13 = .ok (.ddiv, 1) := by decide +kernel
theorem dX5_shareOf_14 : decode cX5_shareOf 14 = .ok (.goto 4, 3) := by decide +kernel
theorem dX5_shareOf_17 : decode cX5_shareOf 17 = .ok (.dconst 0, 1) := by decide +kernel
theorem dX5_shareOf_18 : decode cX5_shareOf 18 = .ok (.dreturn, 1) := by decide +kernel
theorem dX5_effectiveNumber_0 : decode cX5_effectiveNumber 0 = .ok (.aload_n 0, 1) := by decide +kernel
theorem dX5_effectiveNumber_1 : decode cX5_effectiveNumber 1 = .ok (.getfield 29, 3) := by decide +kernel
theorem dX5_effectiveNumber_4 : decode cX5_effectiveNumber 4 = .ok (.dconst 0, 1) := by decide +kernel
theorem dX5_effectiveNumber_5 : decode cX5_effectiveNumber 5 = .ok (.dcmp .l, 1) := by decide +kernel
theorem dX5_effectiveNumber_6 : decode cX5_effectiveNumber 6 = .ok (.ifCond .le 20, 3) := by decide +kernel
theorem dX5_effectiveNumber_9 : decode cX5_effectiveNumber 9 = .ok (.aload_n 0, 1) := by decide +kernel
theorem dX5_effectiveNumber_10 : decode cX5_effectiveNumber 10 = .ok (.getfield 26, 3) := by decide +kernel
theorem dX5_effectiveNumber_13 : decode cX5_effectiveNumber 13 = .ok (.aload_n 0, 1) := by decide +kernel
theorem dX5_effectiveNumber_14 : decode cX5_effectiveNumber 14 = .ok (.getfield 26, 3) := by decide +kernel
theorem dX5_effectiveNumber_17 : decode cX5_effectiveNumber 17 = .ok (.dmul, 1) := by decide +kernel
theorem dX5_effectiveNumber_18 : decode cX5_effectiveNumber 18 = .ok (.aload_n 0, 1) := by decide +kernel
theorem dX5_effectiveNumber_19 : decode cX5_effectiveNumber 19 = .ok (.getfield 29, 3) := by decide +kernel
