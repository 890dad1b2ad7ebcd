theorem dX0_init_0 : decode cX0_init 0 = .ok (.aload_n 0, 1) := by decide +kernel
theorem dX0_init_1 : decode cX0_init 1 = .ok (.invokespecial 3, 3) := by decide +kernel
theorem dX0_init_4 : decode cX0_init 4 = .ok (.aload_n 0, 1) := by decide +kernel
theorem dX0_init_5 : decode cX0_init 5 = .ok (.bipush 31, 2) := by decide +kernel
theorem dX0_init_7 : decode cX0_init 7 = .ok (.newarray .double, 2) := by decide +kernel
theorem dX0_init_9 : decode cX0_init 9 = .ok (.putfield 9, 3) := by decide +kernel
theorem dX0_init_12 : decode cX0_init 12 = .ok (.return_, 1) := by decide +kernel
theorem dX0_fill_0 : decode cX0_fill 0 = .ok (.iconst 0, 1) := by decide +kernel
theorem dX0_fill_1 : decode cX0_fill 1 = .ok (.istore_n 2, 1) := by decide +kernel
theorem dX0_fill_2 : decode cX0_fill 2 = .ok (.iload_n 2, 1) := by decide +kernel
theorem dX0_fill_3 : decode cX0_fill 3 = .ok (.aload_n 0, 1) := by decide +kernel
theorem dX0_fill_4 : decode cX0_fill 4 = .ok (.getfield 9, 3) := by decide +kernel
theorem dX0_fill_7 : decode cX0_fill 7 = .ok (.arraylength, 1) := by decide +kernel
theorem dX0_fill_8 : decode cX0_fill 8 = .ok (.if_icmp .ge 24, 3) := by decide +kernel
theorem dX0_fill_11 : decode cX0_fill 11 = .ok (.aload_n 0, 1) := by decide +kernel
theorem dX0_fill_12 : decode cX0_fill 12 = .ok (.getfield 9, 3) := by decide +kernel
theorem dX0_fill_15 : decode cX0_fill 15 = .ok (.iload_n 2, 1) := by decide +kernel
theorem dX0_fill_16 : decode cX0_fill 16 = .ok (.iload_n 2, 1) := by decide +kernel
theorem dX0_fill_17 : decode cX0_fill 17 = .ok (.ifCond .ne 7, 3) := by decide +kernel
theorem dX0_fill_20 : decode cX0_fill 20 = .ok (.dconst 1, 1) := by decide +kernel
theorem dX0_fill_21 : decode cX0_fill 21 = .ok (.goto 4, 3) := by decide +kernel
theorem dX0_fill_24 : decode cX0_fill 24 = .ok (.dconst 0, 1) := by decide +kernel
theorem dX0_fill_25 : decode cX0_fill 25 = .ok (.dastore, 1) := by decide +kernel
theorem dX0_fill_26 : decode cX0_fill 26 = .ok (.iinc 2 1, 3) := by decide +kernel
theorem dX0_fill_29 : decode cX0_fill 29 = .ok (.goto (-27), 3) := by decide +kernel
theorem dX0_fill_32 : decode cX0_fill 32 = .ok (.iconst 0, 1) := by decide +kernel
theorem dX0_fill_33 : decode cX0_fill 33 = .ok (.istore_n 2, 1) := by decide +kernel
theorem dX0_fill_34 : decode cX0_fill 34 = .ok (.iload_n 2, 1) := by decide +kernel
theorem dX0_fill_35 : decode cX0_fill 35 = .ok (.aload_n 1, 1) := by decide +kernel
theorem dX0_fill_36 : decode cX0_fill 36 = .ok (.getfield 15, 3) := by decide +kernel
theorem dX0_fill_39 : decode cX0_fill 39 = .ok (.if_icmp .ge 15, 3) := by decide +kernel
theorem dX0_fill_42 : decode cX0_fill 42 = .ok (.aload_n 0, 1) := by decide +kernel
theorem dX0_fill_43 : decode cX0_fill 43 = .ok (.aload_n 1, 1) := by decide +kernel
theorem dX0_fill_44 : decode cX0_fill 44 = .ok (.iload_n 2, 1) := by decide +kernel
theorem dX0_fill_45 : decode cX0_fill 45 = .ok (.invokevirtual 21, 3) := by decide +kernel
theorem dX0_fill_48 : decode cX0_fill 48 = .ok (.iinc 2 1, 3) := by decide +kernel
theorem dX0_fill_51 : decode cX0_fill 51 = .ok (.goto (-17), 3) := by decide +kernel
theorem dX0_fill_54 : decode cX0_fill 54 = .ok (.return_, 1) := by decide +kernel
theorem dX0_addPartOf_0 : decode cX0_addPartOf 0 = .ok (.aload_n 0, 1) := by decide +kernel
theorem dX0_addPartOf_1 : decode cX0_addPartOf 1 = .ok (.getfield 9, 3) := by decide +kernel
theorem dX0_addPartOf_4 : decode cX0_addPartOf 4 = .ok (.arraylength, 1) := by decide +kernel
theorem dX0_addPartOf_5 : decode cX0_addPartOf 5 = .ok (.iconst 1, 1) := by decide +kernel
theorem dX0_addPartOf_6 : decode cX0_addPartOf 6 = .ok (.isub, 1) := by decide +kernel
theorem dX0_addPartOf_7 : decode cX0_addPartOf 7 = .ok (.istore_n 3, 1) := by decide +kernel
theorem dX0_addPartOf_8 : decode cX0_addPartOf 8 = .ok (.iload_n 3, 1) := by decide +kernel
theorem dX0_addPartOf_9 : decode cX0_addPartOf 9 = .ok (.ifCond .lt 70, 3) := by decide +kernel
theorem dX0_addPartOf_12 : decode cX0_addPartOf 12 = .ok (.dconst 0, 1) := by decide +kernel
theorem dX0_addPartOf_13 : decode cX0_addPartOf 13 = .ok (.dstore 4, 2) := by decide +kernel
theorem dX0_addPartOf_15 : decode cX0_addPartOf 15 = .ok (.iconst 0, 1) := by decide +kernel
theorem dX0_addPartOf_16 : decode cX0_addPartOf 16 = .ok (.istore 6, 2) := by decide +kernel
theorem dX0_addPartOf_18 : decode cX0_addPartOf 18 = .ok (.iload 6, 2) := by decide +kernel
theorem dX0_addPartOf_20 : decode cX0_addPartOf 20 = .ok (.bipush 6, 2) := by decide +kernel
theorem dX0_addPartOf_22 : decode cX0_addPartOf 22 = .ok (.if_icmp .ge 43, 3) := by decide +kernel
theorem dX0_addPartOf_25 : decode cX0_addPartOf 25 = .ok (.aload_n 1, 1) := by decide +kernel
theorem dX0_addPartOf_26 : decode cX0_addPartOf 26 = .ok (.aload_n 0, 1) := by decide +kernel
theorem dX0_addPartOf_27 : decode cX0_addPartOf 27 = .ok (.iload_n 3, 1) := by decide +kernel
theorem dX0_addPartOf_28 : decode cX0_addPartOf 28 = .ok (.iload 6, 2) := by decide +kernel
theorem dX0_addPartOf_30 : decode cX0_addPartOf 30 = .ok (.isub, 1) := by decide +kernel
theorem dX0_addPartOf_31 : decode cX0_addPartOf 31 = .ok (.invokevirtual 25, 3) := by decide +kernel
theorem dX0_addPartOf_34 : decode cX0_addPartOf 34 = .ok (.iload_n 2, 1) := by decide +kernel
theorem dX0_addPartOf_35 : decode cX0_addPartOf 35 = .ok (.iload 6, 2) := by decide +kernel
theorem dX0_addPartOf_37 : decode cX0_addPartOf 37 = .ok (.invokevirtual 29, 3) := by decide +kernel
theorem dX0_addPartOf_40 : decode cX0_addPartOf 40 = .ok (.dstore 7, 2) := by decide +kernel
theorem dX0_addPartOf_42 : decode cX0_addPartOf 42 = .ok (.dload 7, 2) := by decide +kernel
theorem dX0_addPartOf_44 : decode cX0_addPartOf 44 = .ok (.dload 4, 2) := by decide +kernel
theorem dX0_addPartOf_46 : decode cX0_addPartOf 46 = .ok (.dcmp .l, 1) := by decide +kernel
theorem dX0_addPartOf_47 : decode cX0_addPartOf 47 = .ok (.ifCond .le 8, 3) := by decide +kernel
theorem dX0_addPartOf_50 : decode cX0_addPartOf 50 = .ok (.dload 7, 2) := by decide +kernel
theorem dX0_addPartOf_52 : decode cX0_addPartOf 52 = .ok (.goto 5, 3) := by decide +kernel
theorem dX0_addPartOf_55 : decode cX0_addPartOf 55 = .ok (.dload 4, 2) := by decide +kernel
theorem dX0_addPartOf_57 : decode cX0_addPartOf 57 = .ok (.dstore 4, 2) := by decide +kernel
theorem dX0_addPartOf_59 : decode cX0_addPartOf 59 = .ok (.iinc 6 1, 3) := by decide +kernel
theorem dX0_addPartOf_62 : decode cX0_addPartOf 62 = .ok (.goto (-44), 3) := by decide +kernel
theorem dX0_addPartOf_65 : decode cX0_addPartOf 65 = .ok (.aload_n 0, 1) := by decide +kernel
theorem dX0_addPartOf_66 : decode cX0_addPartOf 66 = .ok (.getfield 9, 3) := by decide +kernel
theorem dX0_addPartOf_69 : decode cX0_addPartOf 69 = .ok (.iload_n 3, 1) := by decide +kernel
theorem dX0_addPartOf_70 : decode cX0_addPartOf 70 = .ok (.dload 4, 2) := by decide +kernel
theorem dX0_addPartOf_72 : decode cX0_addPartOf 72 = .ok (.dastore, 1) := by decide +kernel
theorem dX0_addPartOf_73 : decode cX0_addPartOf 73 = .ok (.iinc 3 (-1), 3) := by decide +kernel
theorem dX0_addPartOf_76 : decode cX0_addPartOf 76 = .ok (.goto (-68), 3) := by decide +kernel
theorem dX0_addPartOf_79 : decode cX0_addPartOf 79 = .ok (.return_, 1) := by decide +kernel
theorem dX0_correctionOf_0 : decode cX0_correctionOf 0 = .ok (.iload_n 1, 1) := by decide +kernel
theorem dX0_correctionOf_1 : decode cX0_correctionOf 1 = .ok (.ifCond .lt 21, 3) := by decide +kernel
theorem dX0_correctionOf_4 : decode cX0_correctionOf 4 = .ok (.iload_n 1, 1) := by decide +kernel
theorem dX0_correctionOf_5 : decode cX0_correctionOf 5 = .ok (.aload_n 0, 1) := by decide +kernel
theorem dX0_correctionOf_6 : decode cX0_correctionOf 6 = .ok (.getfield 9, 3) := by decide +kernel
theorem dX0_correctionOf_9 : decode cX0_correctionOf 9 = .ok (.arraylength, 1) := by decide +kernel
theorem dX0_correctionOf_10 : decode cX0_correctionOf 10 = .ok (.if_icmp .ge 12, 3) := by decide +kernel
theorem dX0_correctionOf_13 : decode cX0_correctionOf 13 = .ok (.aload_n 0, 1) := by decide +kernel
theorem dX0_correctionOf_14 : decode cX0_correctionOf 14 = .ok (.getfield 9, 3) := by decide +kernel
theorem dX0_correctionOf_17 : decode cX0_correctionOf 17 = .ok (.iload_n 1, 1) := by decide +kernel
theorem dX0_correctionOf_18 : decode cX0_correctionOf 18 = .ok (.daload, 1) := by decide +kernel
theorem dX0_correctionOf_19 : decode cX0_correctionOf 19 = .ok (.goto 4, 3) := by decide +kernel
theorem dX0_correctionOf_22 : decode cX0_correctionOf 22 = .ok (.dconst 0, 1) := by decide +kernel
theorem dX0_correctionOf_23 : decode cX0_correctionOf 23 = .ok (.dreturn, 1) := by decide +kernel
theorem dX0_greatestFrom_0 : decode cX0_greatestFrom 0 = .ok (.dconst 0, 1) := by decide +kernel
theorem dX0_greatestFrom_1 : decode cX0_greatestFrom 1 = .ok (.dstore_n 2, 1) := by decide +kernel
theorem dX0_greatestFrom_2 : decode cX0_greatestFrom 2 = .ok (.iload_n 1, 1) := by decide +kernel
theorem dX0_greatestFrom_3 : decode cX0_greatestFrom 3 = .ok (.iconst 0, 1) := by decide +kernel
theorem dX0_greatestFrom_4 : decode cX0_greatestFrom 4 = .ok (.invokestatic 33, 3) := by decide +kernel
theorem dX0_greatestFrom_7 : decode cX0_greatestFrom 7 = .ok (.istore 4, 2) := by decide +kernel
theorem dX0_greatestFrom_9 : decode cX0_greatestFrom 9 = .ok (.iload 4, 2) := by decide +kernel
theorem dX0_greatestFrom_11 : decode cX0_greatestFrom 11 = .ok (.aload_n 0, 1) := by decide +kernel
theorem dX0_greatestFrom_12 : decode cX0_greatestFrom 12 = .ok (.getfield 9, 3) := by decide +kernel
theorem dX0_greatestFrom_15 : decode cX0_greatestFrom 15 = .ok (.arraylength, 1) := by decide +kernel
theorem dX0_greatestFrom_16 : decode cX0_greatestFrom 16 = .ok (.if_icmp .ge 33, 3) := by decide +kernel
theorem dX0_greatestFrom_19 : decode cX0_greatestFrom 19 = .ok (.aload_n 0, 1) := by decide +kernel
theorem dX0_greatestFrom_20 : decode cX0_greatestFrom 20 = .ok (.getfield 9, 3) := by decide +kernel
theorem dX0_greatestFrom_23 : decode cX0_greatestFrom 23 = .ok (.iload 4, 2) := by decide +kernel
theorem dX0_greatestFrom_25 : decode cX0_greatestFrom 25 = .ok (.daload, 1) := by decide +kernel
theorem dX0_greatestFrom_26 : decode cX0_greatestFrom 26 = .ok (.dload_n 2, 1) := by decide +kernel
theorem dX0_greatestFrom_27 : decode cX0_greatestFrom 27 = .ok (.dcmp .l, 1) := by decide +kernel
theorem dX0_greatestFrom_28 : decode cX0_greatestFrom 28 = .ok (.ifCond .le 13, 3) := by decide +kernel
theorem dX0_greatestFrom_31 : decode cX0_greatestFrom 31 = .ok (.aload_n 0, 1) := by decide +kernel
theorem dX0_greatestFrom_32 : decode cX0_greatestFrom 32 = .ok (.getfield 9, 3) := by decide +kernel
theorem dX0_greatestFrom_35 : decode cX0_greatestFrom 35 = .ok (.iload 4, 2) := by decide +kernel
theorem dX0_greatestFrom_37 : decode cX0_greatestFrom 37 = .ok (.daload, 1) := by decide +kernel
theorem dX0_greatestFrom_38 : decode cX0_greatestFrom 38 = .ok (.goto 4, 3) := by decide +kernel
theorem dX0_greatestFrom_41 : decode cX0_greatestFrom 41 = .ok (.dload_n 2, 1) := by decide +kernel
theorem dX0_greatestFrom_42 : decode cX0_greatestFrom 42 = .ok (.dstore_n 2, 1) := by decide +kernel
theorem dX0_greatestFrom_43 : decode cX0_greatestFrom 43 = .ok (.iinc 4 1, 3) := by decide +kernel
theorem dX0_greatestFrom_46 : decode cX0_greatestFrom 46 = .ok (.goto (-37), 3) := by decide +kernel
theorem dX0_greatestFrom_49 : decode cX0_greatestFrom 49 = .ok (.dload_n 2, 1) := by decide +kernel
theorem dX0_greatestFrom_50 : decode cX0_greatestFrom 50 = .ok (.dreturn, 1) := by decide +kernel
theorem dX1_init_0 : decode cX1_init 0 = .ok (.aload_n 0, 1) := by decide +kernel
theorem dX1_init_1 : decode cX1_init 1 = .ok (.invokespecial 3, 3) := by decide +kernel
theorem dX1_init_4 : decode cX1_init 4 = .ok (.aload_n 0, 1) := by decide +kernel
theorem dX1_init_5 : decode cX1_init 5 = .ok (.bipush 31, 2) := by decide +kernel
theorem dX1_init_7 : decode cX1_init 7 = .ok (.newarray .long, 2) := by decide +kernel
theorem dX1_init_9 : decode cX1_init 9 = .ok (.putfield 9, 3) := by decide +kernel
theorem dX1_init_12 : decode cX1_init 12 = .ok (.return_, 1) := by decide +kernel
theorem dX1_fill_0 : decode cX1_fill 0 = .ok (.iconst 0, 1) := by decide +kernel
theorem dX1_fill_1 : decode cX1_fill 1 = .ok (.istore_n 3, 1) := by decide +kernel
theorem dX1_fill_2 : decode cX1_fill 2 = .ok (.iload_n 3, 1) := by decide +kernel
theorem dX1_fill_3 : decode cX1_fill 3 = .ok (.aload_n 0, 1) := by decide +kernel
theorem dX1_fill_4 : decode cX1_fill 4 = .ok (.getfield 9, 3) := by decide +kernel
theorem dX1_fill_7 : decode cX1_fill 7 = .ok (.arraylength, 1) := by decide +kernel
theorem dX1_fill_8 : decode cX1_fill 8 = .ok (.if_icmp .ge 24, 3) := by decide +kernel
theorem dX1_fill_11 : decode cX1_fill 11 = .ok (.aload_n 0, 1) := by decide +kernel
theorem dX1_fill_12 : decode cX1_fill 12 = .ok (.getfield 9, 3) := by decide +kernel
theorem dX1_fill_15 : decode cX1_fill 15 = .ok (.iload_n 3, 1) := by decide +kernel
theorem dX1_fill_16 : decode cX1_fill 16 = .ok (.iload_n 3, 1) := by decide +kernel
theorem dX1_fill_17 : decode cX1_fill 17 = .ok (.ifCond .ne 7, 3) := by decide +kernel
theorem dX1_fill_20 : decode cX1_fill 20 = .ok (.lconst 1, 1) := by decide +kernel
theorem dX1_fill_21 : decode cX1_fill 21 = .ok (.goto 4, 3) := by decide +kernel
theorem dX1_fill_24 : decode cX1_fill 24 = .ok (.lconst 0, 1) := by decide +kernel
theorem dX1_fill_25 : decode cX1_fill 25 = .ok (.lastore, 1) := by decide +kernel
theorem dX1_fill_26 : decode cX1_fill 26 = .ok (.iinc 3 1, 3) := by decide +kernel
theorem dX1_fill_29 : decode cX1_fill 29 = .ok (.goto (-27), 3) := by decide +kernel
theorem dX1_fill_32 : decode cX1_fill 32 = .ok (.iconst 0, 1) := by decide +kernel
theorem dX1_fill_33 : decode cX1_fill 33 = .ok (.istore_n 3, 1) := by decide +kernel
theorem dX1_fill_34 : decode cX1_fill 34 = .ok (.iload_n 3, 1) := by decide +kernel
theorem dX1_fill_35 : decode cX1_fill 35 = .ok (.aload_n 1, 1) := by decide +kernel
theorem dX1_fill_36 : decode cX1_fill 36 = .ok (.getfield 15, 3) := by decide +kernel
theorem dX1_fill_39 : decode cX1_fill 39 = .ok (.if_icmp .ge 20, 3) := by decide +kernel
theorem dX1_fill_42 : decode cX1_fill 42 = .ok (.iload_n 3, 1) := by decide +kernel
theorem dX1_fill_43 : decode cX1_fill 43 = .ok (.iload_n 2, 1) := by decide +kernel
theorem dX1_fill_44 : decode cX1_fill 44 = .ok (.if_icmp .eq 9, 3) := by decide +kernel
theorem dX1_fill_47 : decode cX1_fill 47 = .ok (.aload_n 0, 1) := by decide +kernel
theorem dX1_fill_48 : decode cX1_fill 48 = .ok (.aload_n 1, 1) := by decide +kernel
theorem dX1_fill_49 : decode cX1_fill 49 = .ok (.iload_n 3, 1) := by decide +kernel
theorem dX1_fill_50 : decode cX1_fill 50 = .ok (.invokevirtual 21, 3) := by decide +kernel
theorem dX1_fill_53 : decode cX1_fill 53 = .ok (.iinc 3 1, 3) := by decide +kernel
theorem dX1_fill_56 : decode cX1_fill 56 = .ok (.goto (-22), 3) := by decide +kernel
theorem dX1_fill_59 : decode cX1_fill 59 = .ok (.return_, 1) := by decide +kernel
theorem dX1_addPartOf_0 : decode cX1_addPartOf 0 = .ok (.aload_n 0, 1) := by decide +kernel
theorem dX1_addPartOf_1 : decode cX1_addPartOf 1 = .ok (.getfield 9, 3) := by decide +kernel
theorem dX1_addPartOf_4 : decode cX1_addPartOf 4 = .ok (.arraylength, 1) := by decide +kernel
theorem dX1_addPartOf_5 : decode cX1_addPartOf 5 = .ok (.iconst 1, 1) := by decide +kernel
theorem dX1_addPartOf_6 : decode cX1_addPartOf 6 = .ok (.isub, 1) := by decide +kernel
theorem dX1_addPartOf_7 : decode cX1_addPartOf 7 = .ok (.istore_n 3, 1) := by decide +kernel
theorem dX1_addPartOf_8 : decode cX1_addPartOf 8 = .ok (.iload_n 3, 1) := by decide +kernel
theorem dX1_addPartOf_9 : decode cX1_addPartOf 9 = .ok (.ifCond .lt 61, 3) := by decide +kernel
theorem dX1_addPartOf_12 : decode cX1_addPartOf 12 = .ok (.lconst 0, 1) := by decide +kernel
theorem dX1_addPartOf_13 : decode cX1_addPartOf 13 = .ok (.lstore 4, 2) := by decide +kernel
theorem dX1_addPartOf_15 : decode cX1_addPartOf 15 = .ok (.iconst 0, 1) := by decide +kernel
theorem dX1_addPartOf_16 : decode cX1_addPartOf 16 = .ok (.istore 6, 2) := by decide +kernel
theorem dX1_addPartOf_18 : decode cX1_addPartOf 18 = .ok (.iload 6, 2) := by decide +kernel
theorem dX1_addPartOf_20 : decode cX1_addPartOf 20 = .ok (.bipush 6, 2) := by decide +kernel
theorem dX1_addPartOf_22 : decode cX1_addPartOf 22 = .ok (.if_icmp .ge 34, 3) := by decide +kernel
theorem dX1_addPartOf_25 : decode cX1_addPartOf 25 = .ok (.lload 4, 2) := by decide +kernel
theorem dX1_addPartOf_27 : decode cX1_addPartOf 27 = .ok (.aload_n 1, 1) := by decide +kernel
theorem dX1_addPartOf_28 : decode cX1_addPartOf 28 = .ok (.getfield 25, 3) := by decide +kernel
theorem dX1_addPartOf_31 : decode cX1_addPartOf 31 = .ok (.iload_n 2, 1) := by decide +kernel
theorem dX1_addPartOf_32 : decode cX1_addPartOf 32 = .ok (.iload 6, 2) := by decide +kernel
theorem dX1_addPartOf_34 : decode cX1_addPartOf 34 = .ok (.invokevirtual 29, 3) := by decide +kernel
theorem dX1_addPartOf_37 : decode cX1_addPartOf 37 = .ok (.i2l, 1) := by decide +kernel
theorem dX1_addPartOf_38 : decode cX1_addPartOf 38 = .ok (.aload_n 0, 1) := by decide +kernel
theorem dX1_addPartOf_39 : decode cX1_addPartOf 39 = .ok (.iload_n 3, 1) := by decide +kernel
theorem dX1_addPartOf_40 : decode cX1_addPartOf 40 = .ok (.iload 6, 2) := by decide +kernel
theorem dX1_addPartOf_42 : decode cX1_addPartOf 42 = .ok (.isub, 1) := by decide +kernel
theorem dX1_addPartOf_43 : decode cX1_addPartOf 43 = .ok (.invokevirtual 35, 3) := by decide +kernel
theorem dX1_addPartOf_46 : decode cX1_addPartOf 46 = .ok (.lmul, 1) := by decide +kernel
theorem dX1_addPartOf_47 : decode cX1_addPartOf 47 = .ok (.ladd, 1) := by decide +kernel
theorem dX1_addPartOf_48 : decode cX1_addPartOf 48 = .ok (.lstore 4, 2) := by decide +kernel
theorem dX1_addPartOf_50 : decode cX1_addPartOf 50 = .ok (.iinc 6 1, 3) := by decide +kernel
theorem dX1_addPartOf_53 : decode cX1_addPartOf 53 = .ok (.goto (-35), 3) := by decide +kernel
theorem dX1_addPartOf_56 : decode cX1_addPartOf 56 = .ok (.aload_n 0, 1) := by decide +kernel
theorem dX1_addPartOf_57 : decode cX1_addPartOf 57 = .ok (.getfield 9, 3) := by decide +kernel
theorem dX1_addPartOf_60 : decode cX1_addPartOf 60 = .ok (.iload_n 3, 1) := by decide +kernel
theorem dX1_addPartOf_61 : decode cX1_addPartOf 61 = .ok (.lload 4, 2) := by decide +kernel
theorem dX1_addPartOf_63 : decode cX1_addPartOf 63 = .ok (.lastore, 1) := by decide +kernel
theorem dX1_addPartOf_64 : decode cX1_addPartOf 64 = .ok (.iinc 3 (-1), 3) := by decide +kernel
theorem dX1_addPartOf_67 : decode cX1_addPartOf 67 = .ok (.goto (-59), 3) := by decide +kernel
theorem dX1_addPartOf_70 : decode cX1_addPartOf 70 = .ok (.return_, 1) := by decide +kernel
theorem dX1_waysOf_0 : decode cX1_waysOf 0 = .ok (.iload_n 1, 1) := by decide +kernel
theorem dX1_waysOf_1 : decode cX1_waysOf 1 = .ok (.ifCond .lt 21, 3) := by decide +kernel
theorem dX1_waysOf_4 : decode cX1_waysOf 4 = .ok (.iload_n 1, 1) := by decide +kernel
theorem dX1_waysOf_5 : decode cX1_waysOf 5 = .ok (.aload_n 0, 1) := by decide +kernel
theorem dX1_waysOf_6 : decode cX1_waysOf 6 = .ok (.getfield 9, 3) := by decide +kernel
theorem dX1_waysOf_9 : decode cX1_waysOf 9 = .ok (.arraylength, 1) := by decide +kernel
theorem dX1_waysOf_10 : decode cX1_waysOf 10 = .ok (.if_icmp .ge 12, 3) := by decide +kernel
theorem dX1_waysOf_13 : decode cX1_waysOf 13 = .ok (.aload_n 0, 1) := by decide +kernel
theorem dX1_waysOf_14 : decode cX1_waysOf 14 = .ok (.getfield 9, 3) := by decide +kernel
theorem dX1_waysOf_17 : decode cX1_waysOf 17 = .ok (.iload_n 1, 1) := by decide +kernel
theorem dX1_waysOf_18 : decode cX1_waysOf 18 = .ok (.laload, 1) := by decide +kernel
theorem dX1_waysOf_19 : decode cX1_waysOf 19 = .ok (.goto 4, 3) := by decide +kernel
theorem dX1_waysOf_22 : decode cX1_waysOf 22 = .ok (.lconst 0, 1) := by decide +kernel
theorem dX1_waysOf_23 : decode cX1_waysOf 23 = .ok (.lreturn, 1) := by decide +kernel
theorem dX1_waysFrom_0 : decode cX1_waysFrom 0 = .ok (.lconst 0, 1) := by decide +kernel
theorem dX1_waysFrom_1 : decode cX1_waysFrom 1 = .ok (.lstore_n 2, 1) := by decide +kernel
theorem dX1_waysFrom_2 : decode cX1_waysFrom 2 = .ok (.iload_n 1, 1) := by decide +kernel
theorem dX1_waysFrom_3 : decode cX1_waysFrom 3 = .ok (.iconst 0, 1) := by decide +kernel
theorem dX1_waysFrom_4 : decode cX1_waysFrom 4 = .ok (.invokestatic 39, 3) := by decide +kernel
theorem dX1_waysFrom_7 : decode cX1_waysFrom 7 = .ok (.istore 4, 2) := by decide +kernel
theorem dX1_waysFrom_9 : decode cX1_waysFrom 9 = .ok (.iload 4, 2) := by decide +kernel
theorem dX1_waysFrom_11 : decode cX1_waysFrom 11 = .ok (.aload_n 0, 1) := by decide +kernel
theorem dX1_waysFrom_12 : decode cX1_waysFrom 12 = .ok (.getfield 9, 3) := by decide +kernel
theorem dX1_waysFrom_15 : decode cX1_waysFrom 15 = .ok (.arraylength, 1) := by decide +kernel
theorem dX1_waysFrom_16 : decode cX1_waysFrom 16 = .ok (.if_icmp .ge 19, 3) := by decide +kernel
theorem dX1_waysFrom_19 : decode cX1_waysFrom 19 = .ok (.lload_n 2, 1) := by decide +kernel
theorem dX1_waysFrom_20 : decode cX1_waysFrom 20 = .ok (.aload_n 0, 1) := by decide +kernel
theorem dX1_waysFrom_21 : decode cX1_waysFrom 21 = .ok (.getfield 9, 3) := by decide +kernel
theorem dX1_waysFrom_24 : decode cX1_waysFrom 24 = .ok (.iload 4, 2) := by decide +kernel
theorem dX1_waysFrom_26 : decode cX1_waysFrom 26 = .ok (.laload, 1) := by decide +kernel
theorem dX1_waysFrom_27 : decode cX1_waysFrom 27 = .ok (.ladd, 1) := by decide +kernel
theorem dX1_waysFrom_28 : decode cX1_waysFrom 28 = .ok (.lstore_n 2, 1) := by decide +kernel
theorem dX1_waysFrom_29 : decode cX1_waysFrom 29 = .ok (.iinc 4 1, 3) := by decide +kernel
theorem dX1_waysFrom_32 : decode cX1_waysFrom 32 = .ok (.goto (-23), 3) := by decide +kernel
theorem dX1_waysFrom_35 : decode cX1_waysFrom 35 = .ok (.lload_n 2, 1) := by decide +kernel
theorem dX1_waysFrom_36 : decode cX1_waysFrom 36 = .ok (.lreturn, 1) := by decide +kernel
theorem dX1_oddsFrom_0 : decode cX1_oddsFrom 0 = .ok (.aload_n 0, 1) := by decide +kernel
theorem dX1_oddsFrom_1 : decode cX1_oddsFrom 1 = .ok (.iconst 0, 1) := by decide +kernel
theorem dX1_oddsFrom_2 : decode cX1_oddsFrom 2 = .ok (.invokevirtual 44, 3) := by decide +kernel
theorem dX1_oddsFrom_5 : decode cX1_oddsFrom 5 = .ok (.lstore_n 2, 1) := by decide +kernel
theorem dX1_oddsFrom_6 : decode cX1_oddsFrom 6 = .ok (.lload_n 2, 1) := by decide +kernel
theorem dX1_oddsFrom_7 : decode cX1_oddsFrom 7 = .ok (.lconst 0, 1) := by decide +kernel
theorem dX1_oddsFrom_8 : decode cX1_oddsFrom 8 = .ok (.lcmp, 1) := by decide +kernel
theorem dX1_oddsFrom_9 : decode cX1_oddsFrom 9 = .ok (.ifCond .le 15, 3) := by decide +kernel
theorem dX1_oddsFrom_12 : decode cX1_oddsFrom 12 = .ok (.aload_n 0, 1) := by decide +kernel
theorem dX1_oddsFrom_13 : decode cX1_oddsFrom 13 = .ok (.iload_n 1, 1) := by decide +kernel
theorem dX1_oddsFrom_14 : decode cX1_oddsFrom 14 = .ok (.invokevirtual 44, 3) := by decide +kernel
theorem dX1_oddsFrom_17 : decode cX1_oddsFrom 17 = .ok (.l2d, 1) := by decide +kernel
theorem dX1_oddsFrom_18 : decode cX1_oddsFrom 18 = .ok (.lload_n 2, 1) := by decide +kernel
theorem dX1_oddsFrom_19 : decode cX1_oddsFrom 19 = .ok (.l2d, 1) := by decide +kernel
theorem dX1_oddsFrom_20 : decode cX1_oddsFrom 20 = .ok (.ddiv, 1) := by decide +kernel
theorem dX1_oddsFrom_21 : decode cX1_oddsFrom 21 = .ok (.goto 4, 3) := by decide +kernel
theorem dX1_oddsFrom_24 : decode cX1_oddsFrom 24 = .ok (.dconst 0, 1) := by decide +kernel
theorem dX1_oddsFrom_25 : decode cX1_oddsFrom 25 = .ok (.dreturn, 1) := by decide +kernel
theorem dX2_init_0 : decode cX2_init 0 = .ok (.aload_n 0, 1) := by decide +kernel
theorem dX2_init_1 : decode cX2_init 1 = .ok (.invokespecial 3, 3) := by decide +kernel
theorem dX2_init_4 : decode cX2_init 4 = .ok (.aload_n 0, 1) := by decide +kernel
theorem dX2_init_5 : decode cX2_init 5 = .ok (.bipush 6, 2) := by decide +kernel
theorem dX2_init_7 : decode cX2_init 7 = .ok (.anewarray 9, 3) := by decide +kernel
theorem dX2_init_10 : decode cX2_init 10 = .ok (.putfield 11, 3) := by decide +kernel
theorem dX2_init_13 : decode cX2_init 13 = .ok (.aload_n 0, 1) := by decide +kernel
theorem dX2_init_14 : decode cX2_init 14 = .ok (.iconst 0, 1) := by decide +kernel
theorem dX2_init_15 : decode cX2_init 15 = .ok (.putfield 17, 3) := by decide +kernel
theorem dX2_init_18 : decode cX2_init 18 = .ok (.aload_n 0, 1) := by decide +kernel
theorem dX2_init_19 : decode cX2_init 19 = .ok (.iconst 0, 1) := by decide +kernel
theorem dX2_init_20 : decode cX2_init 20 = .ok (.putfield 21, 3) := by decide +kernel
theorem dX2_init_23 : decode cX2_init 23 = .ok (.return_, 1) := by decide +kernel
theorem dX2_save_0 : decode cX2_save 0 = .ok (.aload_n 0, 1) := by decide +kernel
theorem dX2_save_1 : decode cX2_save 1 = .ok (.getfield 17, 3) := by decide +kernel
theorem dX2_save_4 : decode cX2_save 4 = .ok (.ifCond .lt 15, 3) := by decide +kernel
theorem dX2_save_7 : decode cX2_save 7 = .ok (.aload_n 0, 1) := by decide +kernel
theorem dX2_save_8 : decode cX2_save 8 = .ok (.getfield 17, 3) := by decide +kernel
theorem dX2_save_11 : decode cX2_save 11 = .ok (.aload_n 0, 1) := by decide +kernel
theorem dX2_save_12 : decode cX2_save 12 = .ok (.getfield 11, 3) := by decide +kernel
theorem dX2_save_15 : decode cX2_save 15 = .ok (.arraylength, 1) := by decide +kernel
theorem dX2_save_16 : decode cX2_save 16 = .ok (.if_icmp .lt 4, 3) := by decide +kernel
theorem dX2_save_19 : decode cX2_save 19 = .ok (.return_, 1) := by decide +kernel
theorem dX2_save_20 : decode cX2_save 20 = .ok (.aload_n 0, 1) := by decide +kernel
theorem dX2_save_21 : decode cX2_save 21 = .ok (.getfield 11, 3) := by decide +kernel
theorem dX2_save_24 : decode cX2_save 24 = .ok (.aload_n 0, 1) := by decide +kernel
theorem dX2_save_25 : decode cX2_save 25 = .ok (.getfield 17, 3) := by decide +kernel
theorem dX2_save_28 : decode cX2_save 28 = .ok (.aaload, 1) := by decide +kernel
theorem dX2_save_29 : decode cX2_save 29 = .ok (.astore_n 2, 1) := by decide +kernel
theorem dX2_save_30 : decode cX2_save 30 = .ok (.aload_n 2, 1) := by decide +kernel
theorem dX2_save_31 : decode cX2_save 31 = .ok (.ifnonnull 21, 3) := by decide +kernel
theorem dX2_save_34 : decode cX2_save 34 = .ok (.new 9, 3) := by decide +kernel
theorem dX2_save_37 : decode cX2_save 37 = .ok (.dup, 1) := by decide +kernel
theorem dX2_save_38 : decode cX2_save 38 = .ok (.invokespecial 24, 3) := by decide +kernel
theorem dX2_save_41 : decode cX2_save 41 = .ok (.astore_n 2, 1) := by decide +kernel
theorem dX2_save_42 : decode cX2_save 42 = .ok (.aload_n 0, 1) := by decide +kernel
theorem dX2_save_43 : decode cX2_save 43 = .ok (.getfield 11, 3) := by decide +kernel
theorem dX2_save_46 : decode cX2_save 46 = .ok (.aload_n 0, 1) := by decide +kernel
theorem dX2_save_47 : decode cX2_save 47 = .ok (.getfield 17, 3) := by decide +kernel
theorem dX2_save_50 : decode cX2_save 50 = .ok (.aload_n 2, 1) := by decide +kernel
theorem dX2_save_51 : decode cX2_save 51 = .ok (.aastore, 1) := by decide +kernel
theorem dX2_save_52 : decode cX2_save 52 = .ok (.aload_n 2, 1) := by decide +kernel
theorem dX2_save_53 : decode cX2_save 53 = .ok (.aload_n 1, 1) := by decide +kernel
theorem dX2_save_54 : decode cX2_save 54 = .ok (.invokevirtual 25, 3) := by decide +kernel
theorem dX2_save_57 : decode cX2_save 57 = .ok (.aload_n 0, 1) := by decide +kernel
theorem dX2_save_58 : decode cX2_save 58 = .ok (.aload_n 0, 1) := by decide +kernel
theorem dX2_save_59 : decode cX2_save 59 = .ok (.getfield 17, 3) := by decide +kernel
theorem dX2_save_62 : decode cX2_save 62 = .ok (.iconst 1, 1) := by decide +kernel
theorem dX2_save_63 : decode cX2_save 63 = .ok (.iadd, 1) := by decide +kernel
theorem dX2_save_64 : decode cX2_save 64 = .ok (.bipush 6, 2) := by decide +kernel
theorem dX2_save_66 : decode cX2_save 66 = .ok (.irem, 1) := by decide +kernel
theorem dX2_save_67 : decode cX2_save 67 = .ok (.putfield 17, 3) := by decide +kernel
theorem dX2_save_70 : decode cX2_save 70 = .ok (.aload_n 0, 1) := by decide +kernel
theorem dX2_save_71 : decode cX2_save 71 = .ok (.aload_n 0, 1) := by decide +kernel
theorem dX2_save_72 : decode cX2_save 72 = .ok (.getfield 21, 3) := by decide +kernel
theorem dX2_save_75 : decode cX2_save 75 = .ok (.iconst 1, 1) := by decide +kernel
theorem dX2_save_76 : decode cX2_save 76 = .ok (.iadd, 1) := by decide +kernel
theorem dX2_save_77 : decode cX2_save 77 = .ok (.bipush 6, 2) := by decide +kernel
theorem dX2_save_79 : decode cX2_save 79 = .ok (.invokestatic 29, 3) := by decide +kernel
theorem dX2_save_82 : decode cX2_save 82 = .ok (.putfield 21, 3) := by decide +kernel
theorem dX2_save_85 : decode cX2_save 85 = .ok (.return_, 1) := by decide +kernel
theorem dX2_restore_0 : decode cX2_restore 0 = .ok (.aload_n 0, 1) := by decide +kernel
theorem dX2_restore_1 : decode cX2_restore 1 = .ok (.getfield 17, 3) := by decide +kernel
theorem dX2_restore_4 : decode cX2_restore 4 = .ok (.bipush 6, 2) := by decide +kernel
theorem dX2_restore_6 : decode cX2_restore 6 = .ok (.iadd, 1) := by decide +kernel
theorem dX2_restore_7 : decode cX2_restore 7 = .ok (.iconst 1, 1) := by decide +kernel
theorem dX2_restore_8 : decode cX2_restore 8 = .ok (.isub, 1) := by decide +kernel
theorem dX2_restore_9 : decode cX2_restore 9 = .ok (.bipush 6, 2) := by decide +kernel
theorem dX2_restore_11 : decode cX2_restore 11 = .ok (.irem, 1) := by decide +kernel
theorem dX2_restore_12 : decode cX2_restore 12 = .ok (.istore_n 2, 1) := by decide +kernel
theorem dX2_restore_13 : decode cX2_restore 13 = .ok (.aload_n 0, 1) := by decide +kernel
theorem dX2_restore_14 : decode cX2_restore 14 = .ok (.getfield 21, 3) := by decide +kernel
theorem dX2_restore_17 : decode cX2_restore 17 = .ok (.ifCond .le 16, 3) := by decide +kernel
theorem dX2_restore_20 : decode cX2_restore 20 = .ok (.iload_n 2, 1) := by decide +kernel
theorem dX2_restore_21 : decode cX2_restore 21 = .ok (.ifCond .lt 12, 3) := by decide +kernel
theorem dX2_restore_24 : decode cX2_restore 24 = .ok (.iload_n 2, 1) := by decide +kernel
theorem dX2_restore_25 : decode cX2_restore 25 = .ok (.aload_n 0, 1) := by decide +kernel
theorem dX2_restore_26 : decode cX2_restore 26 = .ok (.getfield 11, 3) := by decide +kernel
theorem dX2_restore_29 : decode cX2_restore 29 = .ok (.arraylength, 1) := by decide +kernel
theorem dX2_restore_30 : decode cX2_restore 30 = .ok (.if_icmp .lt 4, 3) := by decide +kernel
theorem dX2_restore_33 : decode cX2_restore 33 = .ok (.return_, 1) := by decide +kernel
theorem dX2_restore_34 : decode cX2_restore 34 = .ok (.aload_n 0, 1) := by decide +kernel
theorem dX2_restore_35 : decode cX2_restore 35 = .ok (.getfield 11, 3) := by decide +kernel
theorem dX2_restore_38 : decode cX2_restore 38 = .ok (.iload_n 2, 1) := by decide +kernel
theorem dX2_restore_39 : decode cX2_restore 39 = .ok (.aaload, 1) := by decide +kernel
theorem dX2_restore_40 : decode cX2_restore 40 = .ok (.astore_n 3, 1) := by decide +kernel
theorem dX2_restore_41 : decode cX2_restore 41 = .ok (.aload_n 3, 1) := by decide +kernel
theorem dX2_restore_42 : decode cX2_restore 42 = .ok (.ifnonnull 4, 3) := by decide +kernel
theorem dX2_restore_45 : decode cX2_restore 45 = .ok (.return_, 1) := by decide +kernel
theorem dX2_restore_46 : decode cX2_restore 46 = .ok (.aload_n 1, 1) := by decide +kernel
theorem dX2_restore_47 : decode cX2_restore 47 = .ok (.aload_n 3, 1) := by decide +kernel
theorem dX2_restore_48 : decode cX2_restore 48 = .ok (.invokevirtual 25, 3) := by decide +kernel
theorem dX2_restore_51 : decode cX2_restore 51 = .ok (.aload_n 0, 1) := by decide +kernel
theorem dX2_restore_52 : decode cX2_restore 52 = .ok (.iload_n 2, 1) := by decide +kernel
theorem dX2_restore_53 : decode cX2_restore 53 = .ok (.putfield 17, 3) := by decide +kernel
theorem dX2_restore_56 : decode cX2_restore 56 = .ok (.aload_n 0, 1) := by decide +kernel
theorem dX2_restore_57 : decode cX2_restore 57 = .ok (.dup, 1) := by decide +kernel
theorem dX2_restore_58 : decode cX2_restore 58 = .ok (.getfield 21, 3) := by decide +kernel
theorem dX2_restore_61 : decode cX2_restore 61 = .ok (.iconst 1, 1) := by decide +kernel
theorem dX2_restore_62 : decode cX2_restore 62 = .ok (.isub, 1) := by decide +kernel
theorem dX2_restore_63 : decode cX2_restore 63 = .ok (.putfield 21, 3) := by decide +kernel
theorem dX2_restore_66 : decode cX2_restore 66 = .ok (.return_, 1) := by decide +kernel
theorem dX3_init_0 : decode cX3_init 0 = .ok (.aload_n 0, 1) := by decide +kernel
theorem dX3_init_1 : decode cX3_init 1 = .ok (.invokespecial 3, 3) := by decide +kernel
theorem dX3_init_4 : decode cX3_init 4 = .ok (.aload_n 0, 1) := by decide +kernel
theorem dX3_init_5 : decode cX3_init 5 = .ok (.sipush 217, 3) := by decide +kernel
theorem dX3_init_8 : decode cX3_init 8 = .ok (.newarray .int, 2) := by decide +kernel
theorem dX3_init_10 : decode cX3_init 10 = .ok (.putfield 9, 3) := by decide +kernel
theorem dX3_init_13 : decode cX3_init 13 = .ok (.return_, 1) := by decide +kernel
theorem dX3_fill_0 : decode cX3_fill 0 = .ok (.iconst 0, 1) := by decide +kernel
theorem dX3_fill_1 : decode cX3_fill 1 = .ok (.istore_n 2, 1) := by decide +kernel
theorem dX3_fill_2 : decode cX3_fill 2 = .ok (.iload_n 2, 1) := by decide +kernel
theorem dX3_fill_3 : decode cX3_fill 3 = .ok (.bipush 31, 2) := by decide +kernel
theorem dX3_fill_5 : decode cX3_fill 5 = .ok (.if_icmp .ge 27, 3) := by decide +kernel
theorem dX3_fill_8 : decode cX3_fill 8 = .ok (.aload_n 0, 1) := by decide +kernel
theorem dX3_fill_9 : decode cX3_fill 9 = .ok (.aload_n 1, 1) := by decide +kernel
theorem dX3_fill_10 : decode cX3_fill 10 = .ok (.getfield 15, 3) := by decide +kernel
theorem dX3_fill_13 : decode cX3_fill 13 = .ok (.iload_n 2, 1) := by decide +kernel
theorem dX3_fill_14 : decode cX3_fill 14 = .ok (.iload_n 2, 1) := by decide +kernel
theorem dX3_fill_15 : decode cX3_fill 15 = .ok (.ifCond .ne 7, 3) := by decide +kernel
theorem dX3_fill_18 : decode cX3_fill 18 = .ok (.iconst 1, 1) := by decide +kernel
theorem dX3_fill_19 : decode cX3_fill 19 = .ok (.goto 4, 3) := by decide +kernel
theorem dX3_fill_22 : decode cX3_fill 22 = .ok (.iconst 0, 1) := by decide +kernel
theorem dX3_fill_23 : decode cX3_fill 23 = .ok (.invokevirtual 21, 3) := by decide +kernel
theorem dX3_fill_26 : decode cX3_fill 26 = .ok (.iinc 2 1, 3) := by decide +kernel
theorem dX3_fill_29 : decode cX3_fill 29 = .ok (.goto (-27), 3) := by decide +kernel
theorem dX3_fill_32 : decode cX3_fill 32 = .ok (.aload_n 1, 1) := by decide +kernel
theorem dX3_fill_33 : decode cX3_fill 33 = .ok (.getfield 15, 3) := by decide +kernel
theorem dX3_fill_36 : decode cX3_fill 36 = .ok (.iconst 1, 1) := by decide +kernel
theorem dX3_fill_37 : decode cX3_fill 37 = .ok (.isub, 1) := by decide +kernel
theorem dX3_fill_38 : decode cX3_fill 38 = .ok (.istore_n 2, 1) := by decide +kernel
theorem dX3_fill_39 : decode cX3_fill 39 = .ok (.iload_n 2, 1) := by decide +kernel
theorem dX3_fill_40 : decode cX3_fill 40 = .ok (.ifCond .lt 36, 3) := by decide +kernel
theorem dX3_fill_43 : decode cX3_fill 43 = .ok (.iconst 0, 1) := by decide +kernel
theorem dX3_fill_44 : decode cX3_fill 44 = .ok (.istore_n 3, 1) := by decide +kernel
theorem dX3_fill_45 : decode cX3_fill 45 = .ok (.iload_n 3, 1) := by decide +kernel
theorem dX3_fill_46 : decode cX3_fill 46 = .ok (.bipush 31, 2) := by decide +kernel
theorem dX3_fill_48 : decode cX3_fill 48 = .ok (.if_icmp .ge 22, 3) := by decide +kernel
theorem dX3_fill_51 : decode cX3_fill 51 = .ok (.aload_n 0, 1) := by decide +kernel
theorem dX3_fill_52 : decode cX3_fill 52 = .ok (.iload_n 2, 1) := by decide +kernel
theorem dX3_fill_53 : decode cX3_fill 53 = .ok (.iload_n 3, 1) := by decide +kernel
theorem dX3_fill_54 : decode cX3_fill 54 = .ok (.aload_n 0, 1) := by decide +kernel
theorem dX3_fill_55 : decode cX3_fill 55 = .ok (.aload_n 1, 1) := by decide +kernel
theorem dX3_fill_56 : decode cX3_fill 56 = .ok (.iload_n 2, 1) := by decide +kernel
theorem dX3_fill_57 : decode cX3_fill 57 = .ok (.iload_n 3, 1) := by decide +kernel
theorem dX3_fill_58 : decode cX3_fill 58 = .ok (.invokevirtual 25, 3) := by decide +kernel
theorem dX3_fill_61 : decode cX3_fill 61 = .ok (.invokevirtual 21, 3) := by decide +kernel
theorem dX3_fill_64 : decode cX3_fill 64 = .ok (.iinc 3 1, 3) := by decide +kernel
theorem dX3_fill_67 : decode cX3_fill 67 = .ok (.goto (-22), 3) := by decide +kernel
theorem dX3_fill_70 : decode cX3_fill 70 = .ok (.iinc 2 (-1), 3) := by decide +kernel
theorem dX3_fill_73 : decode cX3_fill 73 = .ok (.goto (-34), 3) := by decide +kernel
theorem dX3_fill_76 : decode cX3_fill 76 = .ok (.return_, 1) := by decide +kernel
theorem dX3_waysFor_0 : decode cX3_waysFor 0 = .ok (.aload_n 0, 1) := by decide +kernel
theorem dX3_waysFor_1 : decode cX3_waysFor 1 = .ok (.iconst 0, 1) := by decide +kernel
theorem dX3_waysFor_2 : decode cX3_waysFor 2 = .ok (.iload_n 1, 1) := by decide +kernel
theorem dX3_waysFor_3 : decode cX3_waysFor 3 = .ok (.invokevirtual 29, 3) := by decide +kernel
theorem dX3_waysFor_6 : decode cX3_waysFor 6 = .ok (.ireturn, 1) := by decide +kernel
theorem dX3_loadOf_0 : decode cX3_loadOf 0 = .ok (.aload_n 0, 1) := by decide +kernel
theorem dX3_loadOf_1 : decode cX3_loadOf 1 = .ok (.aload_n 1, 1) := by decide +kernel
theorem dX3_loadOf_2 : decode cX3_loadOf 2 = .ok (.getfield 33, 3) := by decide +kernel
theorem dX3_loadOf_5 : decode cX3_loadOf 5 = .ok (.invokevirtual 36, 3) := by decide +kernel
theorem dX3_loadOf_8 : decode cX3_loadOf 8 = .ok (.ifCond .ne 5, 3) := by decide +kernel
theorem dX3_loadOf_11 : decode cX3_loadOf 11 = .ok (.iconst (-1), 1) := by decide +kernel
theorem dX3_loadOf_12 : decode cX3_loadOf 12 = .ok (.ireturn, 1) := by decide +kernel
theorem dX3_loadOf_13 : decode cX3_loadOf 13 = .ok (.aload_n 1, 1) := by decide +kernel
theorem dX3_loadOf_14 : decode cX3_loadOf 14 = .ok (.getfield 33, 3) := by decide +kernel
theorem dX3_loadOf_17 : decode cX3_loadOf 17 = .ok (.istore_n 3, 1) := by decide +kernel
theorem dX3_loadOf_18 : decode cX3_loadOf 18 = .ok (.iconst 0, 1) := by decide +kernel
theorem dX3_loadOf_19 : decode cX3_loadOf 19 = .ok (.istore 4, 2) := by decide +kernel
theorem dX3_loadOf_21 : decode cX3_loadOf 21 = .ok (.iload 4, 2) := by decide +kernel
theorem dX3_loadOf_23 : decode cX3_loadOf 23 = .ok (.iload_n 2, 1) := by decide +kernel
theorem dX3_loadOf_24 : decode cX3_loadOf 24 = .ok (.if_icmp .ge 24, 3) := by decide +kernel
theorem dX3_loadOf_27 : decode cX3_loadOf 27 = .ok (.iload_n 3, 1) := by decide +kernel
theorem dX3_loadOf_28 : decode cX3_loadOf 28 = .ok (.aload_n 0, 1) := by decide +kernel
theorem dX3_loadOf_29 : decode cX3_loadOf 29 = .ok (.aload_n 1, 1) := by decide +kernel
theorem dX3_loadOf_30 : decode cX3_loadOf 30 = .ok (.iload 4, 2) := by decide +kernel
theorem dX3_loadOf_32 : decode cX3_loadOf 32 = .ok (.iload_n 3, 1) := by decide +kernel
theorem dX3_loadOf_33 : decode cX3_loadOf 33 = .ok (.invokevirtual 40, 3) := by decide +kernel
theorem dX3_loadOf_36 : decode cX3_loadOf 36 = .ok (.isub, 1) := by decide +kernel
theorem dX3_loadOf_37 : decode cX3_loadOf 37 = .ok (.iconst 0, 1) := by decide +kernel
theorem dX3_loadOf_38 : decode cX3_loadOf 38 = .ok (.invokestatic 43, 3) := by decide +kernel
theorem dX3_loadOf_41 : decode cX3_loadOf 41 = .ok (.istore_n 3, 1) := by decide +kernel
theorem dX3_loadOf_42 : decode cX3_loadOf 42 = .ok (.iinc 4 1, 3) := by decide +kernel
theorem dX3_loadOf_45 : decode cX3_loadOf 45 = .ok (.goto (-24), 3) := by decide +kernel
theorem dX3_loadOf_48 : decode cX3_loadOf 48 = .ok (.aload_n 0, 1) := by decide +kernel
theorem dX3_loadOf_49 : decode cX3_loadOf 49 = .ok (.aload_n 1, 1) := by decide +kernel
theorem dX3_loadOf_50 : decode cX3_loadOf 50 = .ok (.iload_n 2, 1) := by decide +kernel
theorem dX3_loadOf_51 : decode cX3_loadOf 51 = .ok (.iload_n 3, 1) := by decide +kernel
theorem dX3_loadOf_52 : decode cX3_loadOf 52 = .ok (.invokevirtual 40, 3) := by decide +kernel
theorem dX3_loadOf_55 : decode cX3_loadOf 55 = .ok (.ireturn, 1) := by decide +kernel
theorem dX3_firstLoad_0 : decode cX3_firstLoad 0 = .ok (.iconst 0, 1) := by decide +kernel
theorem dX3_firstLoad_1 : decode cX3_firstLoad 1 = .ok (.istore 4, 2) := by decide +kernel
theorem dX3_firstLoad_3 : decode cX3_firstLoad 3 = .ok (.iload 4, 2) := by decide +kernel
theorem dX3_firstLoad_5 : decode cX3_firstLoad 5 = .ok (.bipush 6, 2) := by decide +kernel
theorem dX3_firstLoad_7 : decode cX3_firstLoad 7 = .ok (.if_icmp .ge 30, 3) := by decide +kernel
theorem dX3_firstLoad_10 : decode cX3_firstLoad 10 = .ok (.aload_n 0, 1) := by decide +kernel
theorem dX3_firstLoad_11 : decode cX3_firstLoad 11 = .ok (.aload_n 1, 1) := by decide +kernel
theorem dX3_firstLoad_12 : decode cX3_firstLoad 12 = .ok (.iload_n 2, 1) := by decide +kernel
theorem dX3_firstLoad_13 : decode cX3_firstLoad 13 = .ok (.iload 4, 2) := by decide +kernel
theorem dX3_firstLoad_15 : decode cX3_firstLoad 15 = .ok (.iload_n 3, 1) := by decide +kernel
theorem dX3_firstLoad_16 : decode cX3_firstLoad 16 = .ok (.invokevirtual 48, 3) := by decide +kernel
theorem dX3_firstLoad_19 : decode cX3_firstLoad 19 = .ok (.aload_n 0, 1) := by decide +kernel
theorem dX3_firstLoad_20 : decode cX3_firstLoad 20 = .ok (.iload_n 2, 1) := by decide +kernel
theorem dX3_firstLoad_21 : decode cX3_firstLoad 21 = .ok (.iload_n 3, 1) := by decide +kernel
theorem dX3_firstLoad_22 : decode cX3_firstLoad 22 = .ok (.invokevirtual 29, 3) := by decide +kernel
theorem dX3_firstLoad_25 : decode cX3_firstLoad 25 = .ok (.if_icmp .ne 6, 3) := by decide +kernel
theorem dX3_firstLoad_28 : decode cX3_firstLoad 28 = .ok (.iload 4, 2) := by decide +kernel
theorem dX3_firstLoad_30 : decode cX3_firstLoad 30 = .ok (.ireturn, 1) := by decide +kernel
theorem dX3_firstLoad_31 : decode cX3_firstLoad 31 = .ok (.iinc 4 1, 3) := by decide +kernel
theorem dX3_firstLoad_34 : decode cX3_firstLoad 34 = .ok (.goto (-31), 3) := by decide +kernel
theorem dX3_firstLoad_37 : decode cX3_firstLoad 37 = .ok (.iconst (-1), 1) := by decide +kernel
theorem dX3_firstLoad_38 : decode cX3_firstLoad 38 = .ok (.ireturn, 1) := by decide +kernel
theorem dX3_mostOfLoads_0 : decode cX3_mostOfLoads 0 = .ok (.iconst 0, 1) := by decide +kernel
theorem dX3_mostOfLoads_1 : decode cX3_mostOfLoads 1 = .ok (.istore 4, 2) := by decide +kernel
theorem dX3_mostOfLoads_3 : decode cX3_mostOfLoads 3 = .ok (.iconst 0, 1) := by decide +kernel
theorem dX3_mostOfLoads_4 : decode cX3_mostOfLoads 4 = .ok (.istore 5, 2) := by decide +kernel
theorem dX3_mostOfLoads_6 : decode cX3_mostOfLoads 6 = .ok (.iload 5, 2) := by decide +kernel
theorem dX3_mostOfLoads_8 : decode cX3_mostOfLoads 8 = .ok (.bipush 6, 2) := by decide +kernel
theorem dX3_mostOfLoads_10 : decode cX3_mostOfLoads 10 = .ok (.if_icmp .ge 25, 3) := by decide +kernel
theorem dX3_mostOfLoads_13 : decode cX3_mostOfLoads 13 = .ok (.iload 4, 2) := by decide +kernel
theorem dX3_mostOfLoads_15 : decode cX3_mostOfLoads 15 = .ok (.aload_n 0, 1) := by decide +kernel
theorem dX3_mostOfLoads_16 : decode cX3_mostOfLoads 16 = .ok (.aload_n 1, 1) := by decide +kernel
theorem dX3_mostOfLoads_17 : decode cX3_mostOfLoads 17 = .ok (.iload_n 2, 1) := by decide +kernel
theorem dX3_mostOfLoads_18 : decode cX3_mostOfLoads 18 = .ok (.iload 5, 2) := by decide +kernel
theorem dX3_mostOfLoads_20 : decode cX3_mostOfLoads 20 = .ok (.iload_n 3, 1) := by decide +kernel
theorem dX3_mostOfLoads_21 : decode cX3_mostOfLoads 21 = .ok (.invokevirtual 48, 3) := by decide +kernel
theorem dX3_mostOfLoads_24 : decode cX3_mostOfLoads 24 = .ok (.invokestatic 43, 3) := by decide +kernel
theorem dX3_mostOfLoads_27 : decode cX3_mostOfLoads 27 = .ok (.istore 4, 2) := by decide +kernel
theorem dX3_mostOfLoads_29 : decode cX3_mostOfLoads 29 = .ok (.iinc 5 1, 3) := by decide +kernel
theorem dX3_mostOfLoads_32 : decode cX3_mostOfLoads 32 = .ok (.goto (-26), 3) := by decide +kernel
theorem dX3_mostOfLoads_35 : decode cX3_mostOfLoads 35 = .ok (.iload 4, 2) := by decide +kernel
theorem dX3_mostOfLoads_37 : decode cX3_mostOfLoads 37 = .ok (.ireturn, 1) := by decide +kernel
theorem dX3_waysWith_0 : decode cX3_waysWith 0 = .ok (.aload_n 1, 1) := by decide +kernel
theorem dX3_waysWith_1 : decode cX3_waysWith 1 = .ok (.getfield 52, 3) := by decide +kernel
theorem dX3_waysWith_4 : decode cX3_waysWith 4 = .ok (.iload_n 2, 1) := by decide +kernel
theorem dX3_waysWith_5 : decode cX3_waysWith 5 = .ok (.iload_n 3, 1) := by decide +kernel
theorem dX3_waysWith_6 : decode cX3_waysWith 6 = .ok (.invokevirtual 56, 3) := by decide +kernel
theorem dX3_waysWith_9 : decode cX3_waysWith 9 = .ok (.aload_n 0, 1) := by decide +kernel
theorem dX3_waysWith_10 : decode cX3_waysWith 10 = .ok (.iload_n 2, 1) := by decide +kernel
theorem dX3_waysWith_11 : decode cX3_waysWith 11 = .ok (.iconst 1, 1) := by decide +kernel
theorem dX3_waysWith_12 : decode cX3_waysWith 12 = .ok (.iadd, 1) := by decide +kernel
theorem dX3_waysWith_13 : decode cX3_waysWith 13 = .ok (.iload 4, 2) := by decide +kernel
theorem dX3_waysWith_15 : decode cX3_waysWith 15 = .ok (.iload_n 3, 1) := by decide +kernel
theorem dX3_waysWith_16 : decode cX3_waysWith 16 = .ok (.isub, 1) := by decide +kernel
theorem dX3_waysWith_17 : decode cX3_waysWith 17 = .ok (.iconst 0, 1) := by decide +kernel
theorem dX3_waysWith_18 : decode cX3_waysWith 18 = .ok (.invokestatic 43, 3) := by decide +kernel
theorem dX3_waysWith_21 : decode cX3_waysWith 21 = .ok (.invokevirtual 29, 3) := by decide +kernel
theorem dX3_waysWith_24 : decode cX3_waysWith 24 = .ok (.imul, 1) := by decide +kernel
theorem dX3_waysWith_25 : decode cX3_waysWith 25 = .ok (.ireturn, 1) := by decide +kernel
theorem dX3_getMost_0 : decode cX3_getMost 0 = .ok (.iload_n 1, 1) := by decide +kernel
theorem dX3_getMost_1 : decode cX3_getMost 1 = .ok (.ifCond .lt 23, 3) := by decide +kernel
theorem dX3_getMost_4 : decode cX3_getMost 4 = .ok (.iload_n 1, 1) := by decide +kernel
theorem dX3_getMost_5 : decode cX3_getMost 5 = .ok (.bipush 6, 2) := by decide +kernel
theorem dX3_getMost_7 : decode cX3_getMost 7 = .ok (.if_icmp .gt 17, 3) := by decide +kernel
theorem dX3_getMost_10 : decode cX3_getMost 10 = .ok (.iload_n 2, 1) := by decide +kernel
theorem dX3_getMost_11 : decode cX3_getMost 11 = .ok (.ifCond .lt 13, 3) := by decide +kernel
theorem dX3_getMost_14 : decode cX3_getMost 14 = .ok (.iload_n 2, 1) := by decide +kernel
theorem dX3_getMost_15 : decode cX3_getMost 15 = .ok (.bipush 31, 2) := by decide +kernel
theorem dX3_getMost_17 : decode cX3_getMost 17 = .ok (.if_icmp .ge 7, 3) := by decide +kernel
theorem dX3_getMost_20 : decode cX3_getMost 20 = .ok (.iconst 1, 1) := by decide +kernel
theorem dX3_getMost_21 : decode cX3_getMost 21 = .ok (.goto 4, 3) := by decide +kernel
theorem dX3_getMost_24 : decode cX3_getMost 24 = .ok (.iconst 0, 1) := by decide +kernel
theorem dX3_getMost_25 : decode cX3_getMost 25 = .ok (.istore_n 3, 1) := by decide +kernel
theorem dX3_getMost_26 : decode cX3_getMost 26 = .ok (.iload_n 3, 1) := by decide +kernel
theorem dX3_getMost_27 : decode cX3_getMost 27 = .ok (.ifCond .eq 17, 3) := by decide +kernel
theorem dX3_getMost_30 : decode cX3_getMost 30 = .ok (.aload_n 0, 1) := by decide +kernel
theorem dX3_getMost_31 : decode cX3_getMost 31 = .ok (.getfield 9, 3) := by decide +kernel
theorem dX3_getMost_34 : decode cX3_getMost 34 = .ok (.iload_n 1, 1) := by decide +kernel
theorem dX3_getMost_35 : decode cX3_getMost 35 = .ok (.bipush 31, 2) := by decide +kernel
theorem dX3_getMost_37 : decode cX3_getMost 37 = .ok (.imul, 1) := by decide +kernel
theorem dX3_getMost_38 : decode cX3_getMost 38 = .ok (.iload_n 2, 1) := by decide +kernel
theorem dX3_getMost_39 : decode cX3_getMost 39 = .ok (.iadd, 1) := by decide +kernel
theorem dX3_getMost_40 : decode cX3_getMost 40 = .ok (.iaload, 1) := by decide +kernel
theorem dX3_getMost_41 : decode cX3_getMost 41 = .ok (.goto 4, 3) := by decide +kernel
theorem dX3_getMost_44 : decode cX3_getMost 44 = .ok (.iconst 0, 1) := by decide +kernel
theorem dX3_getMost_45 : decode cX3_getMost 45 = .ok (.ireturn, 1) := by decide +kernel
theorem dX3_setMost_0 : decode cX3_setMost 0 = .ok (.iload_n 1, 1) := by decide +kernel
theorem dX3_setMost_1 : decode cX3_setMost 1 = .ok (.ifCond .lt 31, 3) := by decide +kernel
theorem dX3_setMost_4 : decode cX3_setMost 4 = .ok (.iload_n 1, 1) := by decide +kernel
theorem dX3_setMost_5 : decode cX3_setMost 5 = .ok (.bipush 6, 2) := by decide +kernel
theorem dX3_setMost_7 : decode cX3_setMost 7 = .ok (.if_icmp .gt 25, 3) := by decide +kernel
theorem dX3_setMost_10 : decode cX3_setMost 10 = .ok (.iload_n 2, 1) := by decide +kernel
theorem dX3_setMost_11 : decode cX3_setMost 11 = .ok (.ifCond .lt 21, 3) := by decide +kernel
theorem dX3_setMost_14 : decode cX3_setMost 14 = .ok (.iload_n 2, 1) := by decide +kernel
theorem dX3_setMost_15 : decode cX3_setMost 15 = .ok (.bipush 31, 2) := by decide +kernel
theorem dX3_setMost_17 : decode cX3_setMost 17 = .ok (.if_icmp .ge 15, 3) := by decide +kernel
theorem dX3_setMost_20 : decode cX3_setMost 20 = .ok (.aload_n 0, 1) := by decide +kernel
theorem dX3_setMost_21 : decode cX3_setMost 21 = .ok (.getfield 9, 3) := by decide +kernel
theorem dX3_setMost_24 : decode cX3_setMost 24 = .ok (.iload_n 1, 1) := by decide +kernel
theorem dX3_setMost_25 : decode cX3_setMost 25 = .ok (.bipush 31, 2) := by decide +kernel
theorem dX3_setMost_27 : decode cX3_setMost 27 = .ok (.imul, 1) := by decide +kernel
theorem dX3_setMost_28 : decode cX3_setMost 28 = .ok (.iload_n 2, 1) := by decide +kernel
theorem dX3_setMost_29 : decode cX3_setMost 29 = .ok (.iadd, 1) := by decide +kernel
theorem dX3_setMost_30 : decode cX3_setMost 30 = .ok (.iload_n 3, 1) := by decide +kernel
theorem dX3_setMost_31 : decode cX3_setMost 31 = .ok (.iastore, 1) := by decide +kernel
theorem dX3_setMost_32 : decode cX3_setMost 32 = .ok (.return_, 1) := by decide +kernel
theorem dX4_init_0 : decode cX4_init 0 = .ok (.aload_n 0, 1) := by decide +kernel
theorem dX4_init_1 : decode cX4_init 1 = .ok (.invokespecial 3, 3) := by decide +kernel
theorem dX4_init_4 : decode cX4_init 4 = .ok (.aload_n 0, 1) := by decide +kernel
theorem dX4_init_5 : decode cX4_init 5 = .ok (.new 9, 3) := by decide +kernel
theorem dX4_init_8 : decode cX4_init 8 = .ok (.dup, 1) := by decide +kernel
theorem dX4_init_9 : decode cX4_init 9 = .ok (.invokespecial 11, 3) := by decide +kernel
theorem dX4_init_12 : decode cX4_init 12 = .ok (.putfield 12, 3) := by decide +kernel
theorem dX4_init_15 : decode cX4_init 15 = .ok (.aload_n 0, 1) := by decide +kernel
theorem dX4_init_16 : decode cX4_init 16 = .ok (.new 9, 3) := by decide +kernel
theorem dX4_init_19 : decode cX4_init 19 = .ok (.dup, 1) := by decide +kernel
theorem dX4_init_20 : decode cX4_init 20 = .ok (.invokespecial 11, 3) := by decide +kernel
theorem dX4_init_23 : decode cX4_init 23 = .ok (.putfield 18, 3) := by decide +kernel
theorem dX4_init_26 : decode cX4_init 26 = .ok (.aload_n 0, 1) := by decide +kernel
theorem dX4_init_27 : decode cX4_init 27 = .ok (.new 21, 3) := by decide +kernel
theorem dX4_init_30 : decode cX4_init 30 = .ok (.dup, 1) := by decide +kernel
theorem dX4_init_31 : decode cX4_init 31 = .ok (.invokespecial 23, 3) := by decide +kernel
theorem dX4_init_34 : decode cX4_init 34 = .ok (.putfield 24, 3) := by decide +kernel
theorem dX4_init_37 : decode cX4_init 37 = .ok (.aload_n 0, 1) := by decide +kernel
theorem dX4_init_38 : decode cX4_init 38 = .ok (.iconst 0, 1) := by decide +kernel
theorem dX4_init_39 : decode cX4_init 39 = .ok (.putfield 28, 3) := by decide +kernel
theorem dX4_init_42 : decode cX4_init 42 = .ok (.aload_n 0, 1) := by decide +kernel
theorem dX4_init_43 : decode cX4_init 43 = .ok (.bipush 10, 2) := by decide +kernel
theorem dX4_init_45 : decode cX4_init 45 = .ok (.putfield 32, 3) := by decide +kernel
theorem dX4_init_48 : decode cX4_init 48 = .ok (.aload_n 0, 1) := by decide +kernel
theorem dX4_init_49 : decode cX4_init 49 = .ok (.iconst 1, 1) := by decide +kernel
theorem dX4_init_50 : decode cX4_init 50 = .ok (.putfield 35, 3) := by decide +kernel
theorem dX4_init_53 : decode cX4_init 53 = .ok (.return_, 1) := by decide +kernel
theorem dX4_addEmptyPart_0 : decode cX4_addEmptyPart 0 = .ok (.aload_n 0, 1) := by decide +kernel
theorem dX4_addEmptyPart_1 : decode cX4_addEmptyPart 1 = .ok (.dup, 1) := by decide +kernel
theorem dX4_addEmptyPart_2 : decode cX4_addEmptyPart 2 = .ok (.getfield 28, 3) := by decide +kernel
theorem dX4_addEmptyPart_5 : decode cX4_addEmptyPart 5 = .ok (.iconst 1, 1) := by decide +kernel
theorem dX4_addEmptyPart_6 : decode cX4_addEmptyPart 6 = .ok (.iadd, 1) := by decide +kernel
theorem dX4_addEmptyPart_7 : decode cX4_addEmptyPart 7 = .ok (.putfield 28, 3) := by decide +kernel
theorem dX4_addEmptyPart_10 : decode cX4_addEmptyPart 10 = .ok (.aload_n 0, 1) := by decide +kernel
theorem dX4_addEmptyPart_11 : decode cX4_addEmptyPart 11 = .ok (.getfield 24, 3) := by decide +kernel
theorem dX4_addEmptyPart_14 : decode cX4_addEmptyPart 14 = .ok (.invokevirtual 38, 3) := by decide +kernel
theorem dX4_addEmptyPart_17 : decode cX4_addEmptyPart 17 = .ok (.aload_n 0, 1) := by decide +kernel
theorem dX4_addEmptyPart_18 : decode cX4_addEmptyPart 18 = .ok (.getfield 28, 3) := by decide +kernel
theorem dX4_addEmptyPart_21 : decode cX4_addEmptyPart 21 = .ok (.iconst 1, 1) := by decide +kernel
theorem dX4_addEmptyPart_22 : decode cX4_addEmptyPart 22 = .ok (.isub, 1) := by decide +kernel
theorem dX4_addEmptyPart_23 : decode cX4_addEmptyPart 23 = .ok (.ireturn, 1) := by decide +kernel
theorem dX4_dropPart_0 : decode cX4_dropPart 0 = .ok (.aload_n 0, 1) := by decide +kernel
theorem dX4_dropPart_1 : decode cX4_dropPart 1 = .ok (.getfield 12, 3) := by decide +kernel
theorem dX4_dropPart_4 : decode cX4_dropPart 4 = .ok (.iload_n 1, 1) := by decide +kernel
theorem dX4_dropPart_5 : decode cX4_dropPart 5 = .ok (.invokevirtual 41, 3) := by decide +kernel
theorem dX4_dropPart_8 : decode cX4_dropPart 8 = .ok (.aload_n 0, 1) := by decide +kernel
theorem dX4_dropPart_9 : decode cX4_dropPart 9 = .ok (.getfield 18, 3) := by decide +kernel
theorem dX4_dropPart_12 : decode cX4_dropPart 12 = .ok (.iload_n 1, 1) := by decide +kernel
theorem dX4_dropPart_13 : decode cX4_dropPart 13 = .ok (.invokevirtual 41, 3) := by decide +kernel
theorem dX4_dropPart_16 : decode cX4_dropPart 16 = .ok (.aload_n 0, 1) := by decide +kernel
theorem dX4_dropPart_17 : decode cX4_dropPart 17 = .ok (.dup, 1) := by decide +kernel
theorem dX4_dropPart_18 : decode cX4_dropPart 18 = .ok (.getfield 28, 3) := by decide +kernel
theorem dX4_dropPart_21 : decode cX4_dropPart 21 = .ok (.iconst 1, 1) := by decide +kernel
theorem dX4_dropPart_22 : decode cX4_dropPart 22 = .ok (.isub, 1) := by decide +kernel
theorem dX4_dropPart_23 : decode cX4_dropPart 23 = .ok (.putfield 28, 3) := by decide +kernel
theorem dX4_dropPart_26 : decode cX4_dropPart 26 = .ok (.aload_n 0, 1) := by decide +kernel
theorem dX4_dropPart_27 : decode cX4_dropPart 27 = .ok (.getfield 24, 3) := by decide +kernel
theorem dX4_dropPart_30 : decode cX4_dropPart 30 = .ok (.invokevirtual 38, 3) := by decide +kernel
theorem dX4_dropPart_33 : decode cX4_dropPart 33 = .ok (.return_, 1) := by decide +kernel
theorem dX4_setBothWeights_0 : decode cX4_setBothWeights 0 = .ok (.aload_n 0, 1) := by decide +kernel
theorem dX4_setBothWeights_1 : decode cX4_setBothWeights 1 = .ok (.getfield 12, 3) := by decide +kernel
theorem dX4_setBothWeights_4 : decode cX4_setBothWeights 4 = .ok (.iload_n 1, 1) := by decide +kernel
theorem dX4_setBothWeights_5 : decode cX4_setBothWeights 5 = .ok (.iload_n 2, 1) := by decide +kernel
theorem dX4_setBothWeights_6 : decode cX4_setBothWeights 6 = .ok (.iload_n 3, 1) := by decide +kernel
theorem dX4_setBothWeights_7 : decode cX4_setBothWeights 7 = .ok (.invokevirtual 45, 3) := by decide +kernel
theorem dX4_setBothWeights_10 : decode cX4_setBothWeights 10 = .ok (.aload_n 0, 1) := by decide +kernel
theorem dX4_setBothWeights_11 : decode cX4_setBothWeights 11 = .ok (.getfield 18, 3) := by decide +kernel
theorem dX4_setBothWeights_14 : decode cX4_setBothWeights 14 = .ok (.iload_n 1, 1) := by decide +kernel
theorem dX4_setBothWeights_15 : decode cX4_setBothWeights 15 = .ok (.iload_n 2, 1) := by decide +kernel
theorem dX4_setBothWeights_16 : decode cX4_setBothWeights 16 = .ok (.iload_n 3, 1) := by decide +kernel
theorem dX4_setBothWeights_17 : decode cX4_setBothWeights 17 = .ok (.invokevirtual 45, 3) := by decide +kernel
theorem dX4_setBothWeights_20 : decode cX4_setBothWeights 20 = .ok (.return_, 1) := by decide +kernel
theorem dX4_setWeight_0 : decode cX4_setWeight 0 = .ok (.iload_n 3, 1) := by decide +kernel
theorem dX4_setWeight_1 : decode cX4_setWeight 1 = .ok (.ifCond .eq 15, 3) := by decide +kernel
theorem dX4_setWeight_4 : decode cX4_setWeight 4 = .ok (.aload_n 0, 1) := by decide +kernel
theorem dX4_setWeight_5 : decode cX4_setWeight 5 = .ok (.getfield 12, 3) := by decide +kernel
theorem dX4_setWeight_8 : decode cX4_setWeight 8 = .ok (.iload_n 1, 1) := by decide +kernel
theorem dX4_setWeight_9 : decode cX4_setWeight 9 = .ok (.iload_n 2, 1) := by decide +kernel
theorem dX4_setWeight_10 : decode cX4_setWeight 10 = .ok (.invokevirtual 49, 3) := by decide +kernel
theorem dX4_setWeight_13 : decode cX4_setWeight 13 = .ok (.ifCond .ne 13, 3) := by decide +kernel
theorem dX4_setWeight_16 : decode cX4_setWeight 16 = .ok (.aload_n 0, 1) := by decide +kernel
theorem dX4_setWeight_17 : decode cX4_setWeight 17 = .ok (.getfield 18, 3) := by decide +kernel
theorem dX4_setWeight_20 : decode cX4_setWeight 20 = .ok (.iload_n 1, 1) := by decide +kernel
theorem dX4_setWeight_21 : decode cX4_setWeight 21 = .ok (.iload_n 2, 1) := by decide +kernel
theorem dX4_setWeight_22 : decode cX4_setWeight 22 = .ok (.iload_n 3, 1) := by decide +kernel
theorem dX4_setWeight_23 : decode cX4_setWeight 23 = .ok (.invokevirtual 45, 3) := by decide +kernel
theorem dX4_setWeight_26 : decode cX4_setWeight 26 = .ok (.aload_n 0, 1) := by decide +kernel
theorem dX4_setWeight_27 : decode cX4_setWeight 27 = .ok (.getfield 12, 3) := by decide +kernel
theorem dX4_setWeight_30 : decode cX4_setWeight 30 = .ok (.iload_n 1, 1) := by decide +kernel
theorem dX4_setWeight_31 : decode cX4_setWeight 31 = .ok (.iload_n 2, 1) := by decide +kernel
theorem dX4_setWeight_32 : decode cX4_setWeight 32 = .ok (.iload_n 3, 1) := by decide +kernel
theorem dX4_setWeight_33 : decode cX4_setWeight 33 = .ok (.invokevirtual 45, 3) := by decide +kernel
theorem dX4_setWeight_36 : decode cX4_setWeight 36 = .ok (.aload_n 0, 1) := by decide +kernel
theorem dX4_setWeight_37 : decode cX4_setWeight 37 = .ok (.getfield 24, 3) := by decide +kernel
theorem dX4_setWeight_40 : decode cX4_setWeight 40 = .ok (.invokevirtual 38, 3) := by decide +kernel
theorem dX4_setWeight_43 : decode cX4_setWeight 43 = .ok (.return_, 1) := by decide +kernel
theorem dX4_setTilted_0 : decode cX4_setTilted 0 = .ok (.aload_n 0, 1) := by decide +kernel
theorem dX4_setTilted_1 : decode cX4_setTilted 1 = .ok (.getfield 18, 3) := by decide +kernel
theorem dX4_setTilted_4 : decode cX4_setTilted 4 = .ok (.iload_n 1, 1) := by decide +kernel
theorem dX4_setTilted_5 : decode cX4_setTilted 5 = .ok (.iload_n 2, 1) := by decide +kernel
theorem dX4_setTilted_6 : decode cX4_setTilted 6 = .ok (.iload_n 3, 1) := by decide +kernel
theorem dX4_setTilted_7 : decode cX4_setTilted 7 = .ok (.invokevirtual 45, 3) := by decide +kernel
theorem dX4_setTilted_10 : decode cX4_setTilted 10 = .ok (.aload_n 0, 1) := by decide +kernel
theorem dX4_setTilted_11 : decode cX4_setTilted 11 = .ok (.getfield 24, 3) := by decide +kernel
theorem dX4_setTilted_14 : decode cX4_setTilted 14 = .ok (.invokevirtual 38, 3) := by decide +kernel
theorem dX4_setTilted_17 : decode cX4_setTilted 17 = .ok (.return_, 1) := by decide +kernel
theorem dX4_tiltBy_0 : decode cX4_tiltBy 0 = .ok (.iconst 0, 1) := by decide +kernel
theorem dX4_tiltBy_1 : decode cX4_tiltBy 1 = .ok (.istore_n 2, 1) := by decide +kernel
theorem dX4_tiltBy_2 : decode cX4_tiltBy 2 = .ok (.iload_n 2, 1) := by decide +kernel
theorem dX4_tiltBy_3 : decode cX4_tiltBy 3 = .ok (.aload_n 0, 1) := by decide +kernel
theorem dX4_tiltBy_4 : decode cX4_tiltBy 4 = .ok (.getfield 28, 3) := by decide +kernel
theorem dX4_tiltBy_7 : decode cX4_tiltBy 7 = .ok (.if_icmp .ge 56, 3) := by decide +kernel
theorem dX4_tiltBy_10 : decode cX4_tiltBy 10 = .ok (.iconst 0, 1) := by decide +kernel
theorem dX4_tiltBy_11 : decode cX4_tiltBy 11 = .ok (.istore_n 3, 1) := by decide +kernel
theorem dX4_tiltBy_12 : decode cX4_tiltBy 12 = .ok (.iload_n 3, 1) := by decide +kernel
theorem dX4_tiltBy_13 : decode cX4_tiltBy 13 = .ok (.bipush 6, 2) := by decide +kernel
theorem dX4_tiltBy_15 : decode cX4_tiltBy 15 = .ok (.if_icmp .ge 42, 3) := by decide +kernel
theorem dX4_tiltBy_18 : decode cX4_tiltBy 18 = .ok (.aload_n 0, 1) := by decide +kernel
theorem dX4_tiltBy_19 : decode cX4_tiltBy 19 = .ok (.getfield 12, 3) := by decide +kernel
theorem dX4_tiltBy_22 : decode cX4_tiltBy 22 = .ok (.iload_n 2, 1) := by decide +kernel
theorem dX4_tiltBy_23 : decode cX4_tiltBy 23 = .ok (.iload_n 3, 1) := by decide +kernel
theorem dX4_tiltBy_24 : decode cX4_tiltBy 24 = .ok (.invokevirtual 49, 3) := by decide +kernel
theorem dX4_tiltBy_27 : decode cX4_tiltBy 27 = .ok (.iconst 1, 1) := by decide +kernel
theorem dX4_tiltBy_28 : decode cX4_tiltBy 28 = .ok (.iload_n 3, 1) := by decide +kernel
theorem dX4_tiltBy_29 : decode cX4_tiltBy 29 = .ok (.iload_n 1, 1) := by decide +kernel
theorem dX4_tiltBy_30 : decode cX4_tiltBy 30 = .ok (.imul, 1) := by decide +kernel
theorem dX4_tiltBy_31 : decode cX4_tiltBy 31 = .ok (.iadd, 1) := by decide +kernel
theorem dX4_tiltBy_32 : decode cX4_tiltBy 32 = .ok (.imul, 1) := by decide +kernel
theorem dX4_tiltBy_33 : decode cX4_tiltBy 33 = .ok (.istore 4, 2) := by decide +kernel
theorem dX4_tiltBy_35 : decode cX4_tiltBy 35 = .ok (.aload_n 0, 1) := by decide +kernel
theorem dX4_tiltBy_36 : decode cX4_tiltBy 36 = .ok (.getfield 18, 3) := by decide +kernel
theorem dX4_tiltBy_39 : decode cX4_tiltBy 39 = .ok (.iload_n 2, 1) := by decide +kernel
theorem dX4_tiltBy_40 : decode cX4_tiltBy 40 = .ok (.iload_n 3, 1) := by decide +kernel
theorem dX4_tiltBy_41 : decode cX4_tiltBy 41 = .ok (.iload 4, 2) := by decide +kernel
theorem dX4_tiltBy_43 : decode cX4_tiltBy 43 = .ok (.bipush 99, 2) := by decide +kernel
theorem dX4_tiltBy_45 : decode cX4_tiltBy 45 = .ok (.invokestatic 53, 3) := by decide +kernel
theorem dX4_tiltBy_48 : decode cX4_tiltBy 48 = .ok (.invokevirtual 45, 3) := by decide +kernel
theorem dX4_tiltBy_51 : decode cX4_tiltBy 51 = .ok (.iinc 3 1, 3) := by decide +kernel
theorem dX4_tiltBy_54 : decode cX4_tiltBy 54 = .ok (.goto (-42), 3) := by decide +kernel
theorem dX4_tiltBy_57 : decode cX4_tiltBy 57 = .ok (.iinc 2 1, 3) := by decide +kernel
theorem dX4_tiltBy_60 : decode cX4_tiltBy 60 = .ok (.goto (-58), 3) := by decide +kernel
theorem dX4_tiltBy_63 : decode cX4_tiltBy 63 = .ok (.aload_n 0, 1) := by decide +kernel
theorem dX4_tiltBy_64 : decode cX4_tiltBy 64 = .ok (.getfield 24, 3) := by decide +kernel
theorem dX4_tiltBy_67 : decode cX4_tiltBy 67 = .ok (.invokevirtual 38, 3) := by decide +kernel
theorem dX4_tiltBy_70 : decode cX4_tiltBy 70 = .ok (.return_, 1) := by decide +kernel
theorem dX4_setLimit_0 : decode cX4_setLimit 0 = .ok (.aload_n 0, 1) := by decide +kernel
theorem dX4_setLimit_1 : decode cX4_setLimit 1 = .ok (.iload_n 1, 1) := by decide +kernel
theorem dX4_setLimit_2 : decode cX4_setLimit 2 = .ok (.putfield 32, 3) := by decide +kernel
theorem dX4_setLimit_5 : decode cX4_setLimit 5 = .ok (.aload_n 0, 1) := by decide +kernel
theorem dX4_setLimit_6 : decode cX4_setLimit 6 = .ok (.getfield 24, 3) := by decide +kernel
theorem dX4_setLimit_9 : decode cX4_setLimit 9 = .ok (.invokevirtual 38, 3) := by decide +kernel
theorem dX4_setLimit_12 : decode cX4_setLimit 12 = .ok (.return_, 1) := by decide +kernel
theorem dX4_sumOfTiltedTotals_0 : decode cX4_sumOfTiltedTotals 0 = .ok (.iconst 0, 1) := by decide +kernel
theorem dX4_sumOfTiltedTotals_1 : decode cX4_sumOfTiltedTotals 1 = .ok (.istore_n 1, 1) := by decide +kernel
theorem dX4_sumOfTiltedTotals_2 : decode cX4_sumOfTiltedTotals 2 = .ok (.iconst 0, 1) := by decide +kernel
theorem dX4_sumOfTiltedTotals_3 : decode cX4_sumOfTiltedTotals 3 = .ok (.istore_n 2, 1) := by decide +kernel
theorem dX4_sumOfTiltedTotals_4 : decode cX4_sumOfTiltedTotals 4 = .ok (.iload_n 2, 1) := by decide +kernel
theorem dX4_sumOfTiltedTotals_5 : decode cX4_sumOfTiltedTotals 5 = .ok (.aload_n 0, 1) := by decide +kernel
theorem dX4_sumOfTiltedTotals_6 : decode cX4_sumOfTiltedTotals 6 = .ok (.getfield 28, 3) := by decide +kernel
theorem dX4_sumOfTiltedTotals_9 : decode cX4_sumOfTiltedTotals 9 = .ok (.if_icmp .ge 20, 3) := by decide +kernel
theorem dX4_sumOfTiltedTotals_12 : decode cX4_sumOfTiltedTotals 12 = .ok (.iload_n 1, 1) := by decide +kernel
theorem dX4_sumOfTiltedTotals_13 : decode cX4_sumOfTiltedTotals 13 = .ok (.aload_n 0, 1) := by decide +kernel
theorem dX4_sumOfTiltedTotals_14 : decode cX4_sumOfTiltedTotals 14 = .ok (.getfield 18, 3) := by decide +kernel
theorem dX4_sumOfTiltedTotals_17 : decode cX4_sumOfTiltedTotals 17 = .ok (.iload_n 2, 1) := by decide +kernel
theorem dX4_sumOfTiltedTotals_18 : decode cX4_sumOfTiltedTotals 18 = .ok (.invokevirtual 58, 3) := by decide +kernel
theorem dX4_sumOfTiltedTotals_21 : decode cX4_sumOfTiltedTotals 21 = .ok (.iadd, 1) := by decide +kernel
theorem dX4_sumOfTiltedTotals_22 : decode cX4_sumOfTiltedTotals 22 = .ok (.istore_n 1, 1) := by decide +kernel
theorem dX4_sumOfTiltedTotals_23 : decode cX4_sumOfTiltedTotals 23 = .ok (.iinc 2 1, 3) := by decide +kernel
theorem dX4_sumOfTiltedTotals_26 : decode cX4_sumOfTiltedTotals 26 = .ok (.goto (-22), 3) := by decide +kernel
theorem dX4_sumOfTiltedTotals_29 : decode cX4_sumOfTiltedTotals 29 = .ok (.iload_n 1, 1) := by decide +kernel
theorem dX4_sumOfTiltedTotals_30 : decode cX4_sumOfTiltedTotals 30 = .ok (.ireturn, 1) := by decide +kernel
theorem dX4_leastSum_0 : decode cX4_leastSum 0 = .ok (.iconst 0, 1) := by decide +kernel
theorem dX4_leastSum_1 : decode cX4_leastSum 1 = .ok (.istore_n 1, 1) := by decide +kernel
theorem dX4_leastSum_2 : decode cX4_leastSum 2 = .ok (.iconst 0, 1) := by decide +kernel
theorem dX4_leastSum_3 : decode cX4_leastSum 3 = .ok (.istore_n 2, 1) := by decide +kernel
theorem dX4_leastSum_4 : decode cX4_leastSum 4 = .ok (.iload_n 2, 1) := by decide +kernel
theorem dX4_leastSum_5 : decode cX4_leastSum 5 = .ok (.aload_n 0, 1) := by decide +kernel
theorem dX4_leastSum_6 : decode cX4_leastSum 6 = .ok (.getfield 28, 3) := by decide +kernel
theorem dX4_leastSum_9 : decode cX4_leastSum 9 = .ok (.if_icmp .ge 20, 3) := by decide +kernel
theorem dX4_leastSum_12 : decode cX4_leastSum 12 = .ok (.iload_n 1, 1) := by decide +kernel
theorem dX4_leastSum_13 : decode cX4_leastSum 13 = .ok (.aload_n 0, 1) := by decide +kernel
theorem dX4_leastSum_14 : decode cX4_leastSum 14 = .ok (.getfield 12, 3) := by decide +kernel
theorem dX4_leastSum_17 : decode cX4_leastSum 17 = .ok (.iload_n 2, 1) := by decide +kernel
theorem dX4_leastSum_18 : decode cX4_leastSum 18 = .ok (.invokevirtual 62, 3) := by decide +kernel
theorem dX4_leastSum_21 : decode cX4_leastSum 21 = .ok (.iadd, 1) := by decide +kernel
theorem dX4_leastSum_22 : decode cX4_leastSum 22 = .ok (.istore_n 1, 1) := by decide +kernel
theorem dX4_leastSum_23 : decode cX4_leastSum 23 = .ok (.iinc 2 1, 3) := by decide +kernel
theorem dX4_leastSum_26 : decode cX4_leastSum 26 = .ok (.goto (-22), 3) := by decide +kernel
theorem dX4_leastSum_29 : decode cX4_leastSum 29 = .ok (.iload_n 1, 1) := by decide +kernel
theorem dX4_leastSum_30 : decode cX4_leastSum 30 = .ok (.ireturn, 1) := by decide +kernel
theorem dX4_greatestSum_0 : decode cX4_greatestSum 0 = .ok (.iconst 0, 1) := by decide +kernel
theorem dX4_greatestSum_1 : decode cX4_greatestSum 1 = .ok (.istore_n 1, 1) := by decide +kernel
theorem dX4_greatestSum_2 : decode cX4_greatestSum 2 = .ok (.iconst 0, 1) := by decide +kernel
theorem dX4_greatestSum_3 : decode cX4_greatestSum 3 = .ok (.istore_n 2, 1) := by decide +kernel
theorem dX4_greatestSum_4 : decode cX4_greatestSum 4 = .ok (.iload_n 2, 1) := by decide +kernel
theorem dX4_greatestSum_5 : decode cX4_greatestSum 5 = .ok (.aload_n 0, 1) := by decide +kernel
theorem dX4_greatestSum_6 : decode cX4_greatestSum 6 = .ok (.getfield 28, 3) := by decide +kernel
theorem dX4_greatestSum_9 : decode cX4_greatestSum 9 = .ok (.if_icmp .ge 20, 3) := by decide +kernel
theorem dX4_greatestSum_12 : decode cX4_greatestSum 12 = .ok (.iload_n 1, 1) := by decide +kernel
theorem dX4_greatestSum_13 : decode cX4_greatestSum 13 = .ok (.aload_n 0, 1) := by decide +kernel
theorem dX4_greatestSum_14 : decode cX4_greatestSum 14 = .ok (.getfield 12, 3) := by decide +kernel
theorem dX4_greatestSum_17 : decode cX4_greatestSum 17 = .ok (.iload_n 2, 1) := by decide +kernel
theorem dX4_greatestSum_18 : decode cX4_greatestSum 18 = .ok (.invokevirtual 65, 3) := by decide +kernel
theorem dX4_greatestSum_21 : decode cX4_greatestSum 21 = .ok (.iadd, 1) := by decide +kernel
theorem dX4_greatestSum_22 : decode cX4_greatestSum 22 = .ok (.istore_n 1, 1) := by decide +kernel
theorem dX4_greatestSum_23 : decode cX4_greatestSum 23 = .ok (.iinc 2 1, 3) := by decide +kernel
theorem dX4_greatestSum_26 : decode cX4_greatestSum 26 = .ok (.goto (-22), 3) := by decide +kernel
theorem dX4_greatestSum_29 : decode cX4_greatestSum 29 = .ok (.iload_n 1, 1) := by decide +kernel
theorem dX4_greatestSum_30 : decode cX4_greatestSum 30 = .ok (.ireturn, 1) := by decide +kernel
theorem dX4_drawRow_0 : decode cX4_drawRow 0 = .ok (.iconst 0, 1) := by decide +kernel
theorem dX4_drawRow_1 : decode cX4_drawRow 1 = .ok (.istore_n 1, 1) := by decide +kernel
theorem dX4_drawRow_2 : decode cX4_drawRow 2 = .ok (.dconst 1, 1) := by decide +kernel
theorem dX4_drawRow_3 : decode cX4_drawRow 3 = .ok (.dstore_n 2, 1) := by decide +kernel
theorem dX4_drawRow_4 : decode cX4_drawRow 4 = .ok (.iconst 0, 1) := by decide +kernel
theorem dX4_drawRow_5 : decode cX4_drawRow 5 = .ok (.istore 4, 2) := by decide +kernel
theorem dX4_drawRow_7 : decode cX4_drawRow 7 = .ok (.iload 4, 2) := by decide +kernel
theorem dX4_drawRow_9 : decode cX4_drawRow 9 = .ok (.aload_n 0, 1) := by decide +kernel
theorem dX4_drawRow_10 : decode cX4_drawRow 10 = .ok (.getfield 28, 3) := by decide +kernel
theorem dX4_drawRow_13 : decode cX4_drawRow 13 = .ok (.if_icmp .ge 43, 3) := by decide +kernel
theorem dX4_drawRow_16 : decode cX4_drawRow 16 = .ok (.aload_n 0, 1) := by decide +kernel
theorem dX4_drawRow_17 : decode cX4_drawRow 17 = .ok (.iload 4, 2) := by decide +kernel
theorem dX4_drawRow_19 : decode cX4_drawRow 19 = .ok (.invokevirtual 68, 3) := by decide +kernel
theorem dX4_drawRow_22 : decode cX4_drawRow 22 = .ok (.istore 5, 2) := by decide +kernel
theorem dX4_drawRow_24 : decode cX4_drawRow 24 = .ok (.aload_n 0, 1) := by decide +kernel
theorem dX4_drawRow_25 : decode cX4_drawRow 25 = .ok (.getfield 24, 3) := by decide +kernel
theorem dX4_drawRow_28 : decode cX4_drawRow 28 = .ok (.iload 4, 2) := by decide +kernel
theorem dX4_drawRow_30 : decode cX4_drawRow 30 = .ok (.iload 5, 2) := by decide +kernel
theorem dX4_drawRow_32 : decode cX4_drawRow 32 = .ok (.invokevirtual 71, 3) := by decide +kernel
theorem dX4_drawRow_35 : decode cX4_drawRow 35 = .ok (.iload_n 1, 1) := by decide +kernel
theorem dX4_drawRow_36 : decode cX4_drawRow 36 = .ok (.iload 5, 2) := by decide +kernel
theorem dX4_drawRow_38 : decode cX4_drawRow 38 = .ok (.iadd, 1) := by decide +kernel
theorem dX4_drawRow_39 : decode cX4_drawRow 39 = .ok (.istore_n 1, 1) := by decide +kernel
theorem dX4_drawRow_40 : decode cX4_drawRow 40 = .ok (.aload_n 0, 1) := by decide +kernel
theorem dX4_drawRow_41 : decode cX4_drawRow 41 = .ok (.dload_n 2, 1) := by decide +kernel
theorem dX4_drawRow_42 : decode cX4_drawRow 42 = .ok (.iload 4, 2) := by decide +kernel
theorem dX4_drawRow_44 : decode cX4_drawRow 44 = .ok (.iload 5, 2) := by decide +kernel
theorem dX4_drawRow_46 : decode cX4_drawRow 46 = .ok (.invokevirtual 75, 3) := by decide +kernel
theorem dX4_drawRow_49 : decode cX4_drawRow 49 = .ok (.dstore_n 2, 1) := by decide +kernel
theorem dX4_drawRow_50 : decode cX4_drawRow 50 = .ok (.iinc 4 1, 3) := by decide +kernel
theorem dX4_drawRow_53 : decode cX4_drawRow 53 = .ok (.goto (-46), 3) := by decide +kernel
theorem dX4_drawRow_56 : decode cX4_drawRow 56 = .ok (.aload_n 0, 1) := by decide +kernel
theorem dX4_drawRow_57 : decode cX4_drawRow 57 = .ok (.getfield 24, 3) := by decide +kernel
theorem dX4_drawRow_60 : decode cX4_drawRow 60 = .ok (.dload_n 2, 1) := by decide +kernel
theorem dX4_drawRow_61 : decode cX4_drawRow 61 = .ok (.iload_n 1, 1) := by decide +kernel
theorem dX4_drawRow_62 : decode cX4_drawRow 62 = .ok (.aload_n 0, 1) := by decide +kernel
theorem dX4_drawRow_63 : decode cX4_drawRow 63 = .ok (.getfield 32, 3) := by decide +kernel
theorem dX4_drawRow_66 : decode cX4_drawRow 66 = .ok (.if_icmp .lt 7, 3) := by decide +kernel
theorem dX4_drawRow_69 : decode cX4_drawRow 69 = .ok (.iconst 1, 1) := by decide +kernel
theorem dX4_drawRow_70 : decode cX4_drawRow 70 = .ok (.goto 4, 3) := by decide +kernel
theorem dX4_drawRow_73 : decode cX4_drawRow 73 = .ok (.iconst 0, 1) := by decide +kernel
theorem dX4_drawRow_74 : decode cX4_drawRow 74 = .ok (.invokevirtual 79, 3) := by decide +kernel
theorem dX4_drawRow_77 : decode cX4_drawRow 77 = .ok (.return_, 1) := by decide +kernel
theorem dX4_drawLoad_0 : decode cX4_drawLoad 0 = .ok (.aload_n 0, 1) := by decide +kernel
theorem dX4_drawLoad_1 : decode cX4_drawLoad 1 = .ok (.aload_n 0, 1) := by decide +kernel
theorem dX4_drawLoad_2 : decode cX4_drawLoad 2 = .ok (.getfield 35, 3) := by decide +kernel
theorem dX4_drawLoad_5 : decode cX4_drawLoad 5 = .ok (.i2l, 1) := by decide +kernel
theorem dX4_drawLoad_6 : decode cX4_drawLoad 6 = .ok (.ldc2_w 83, 3) := by decide +kernel
theorem dX4_drawLoad_9 : decode cX4_drawLoad 9 = .ok (.lmul, 1) := by decide +kernel
theorem dX4_drawLoad_10 : decode cX4_drawLoad 10 = .ok (.ldc2_w 85, 3) := by decide +kernel
theorem dX4_drawLoad_13 : decode cX4_drawLoad 13 = .ok (.ladd, 1) := by decide +kernel
theorem dX4_drawLoad_14 : decode cX4_drawLoad 14 = .ok (.ldc2_w 87, 3) := by decide +kernel
theorem dX4_drawLoad_17 : decode cX4_drawLoad 17 = .ok (.lrem, 1) := by decide +kernel
theorem dX4_drawLoad_18 : decode cX4_drawLoad 18 = .ok (.l2i, 1) := by decide +kernel
theorem dX4_drawLoad_19 : decode cX4_drawLoad 19 = .ok (.putfield 35, 3) := by decide +kernel
theorem dX4_drawLoad_22 : decode cX4_drawLoad 22 = .ok (.aload_n 0, 1) := by decide +kernel
theorem dX4_drawLoad_23 : decode cX4_drawLoad 23 = .ok (.getfield 18, 3) := by decide +kernel
theorem dX4_drawLoad_26 : decode cX4_drawLoad 26 = .ok (.iload_n 1, 1) := by decide +kernel
theorem dX4_drawLoad_27 : decode cX4_drawLoad 27 = .ok (.invokevirtual 58, 3) := by decide +kernel
theorem dX4_drawLoad_30 : decode cX4_drawLoad 30 = .ok (.istore_n 2, 1) := by decide +kernel
theorem dX4_drawLoad_31 : decode cX4_drawLoad 31 = .ok (.iload_n 2, 1) := by decide +kernel
theorem dX4_drawLoad_32 : decode cX4_drawLoad 32 = .ok (.ifCond .le 15, 3) := by decide +kernel
theorem dX4_drawLoad_35 : decode cX4_drawLoad 35 = .ok (.aload_n 0, 1) := by decide +kernel
theorem dX4_drawLoad_36 : decode cX4_drawLoad 36 = .ok (.getfield 35, 3) := by decide +kernel
theorem dX4_drawLoad_39 : decode cX4_drawLoad 39 = .ok (.ldc 89, 2) := by decide +kernel
theorem dX4_drawLoad_41 : decode cX4_drawLoad 41 = .ok (.idiv, 1) := by decide +kernel
theorem dX4_drawLoad_42 : decode cX4_drawLoad 42 = .ok (.iload_n 2, 1) := by decide +kernel
theorem dX4_drawLoad_43 : decode cX4_drawLoad 43 = .ok (.irem, 1) := by decide +kernel
theorem dX4_drawLoad_44 : decode cX4_drawLoad 44 = .ok (.goto 4, 3) := by decide +kernel
theorem dX4_drawLoad_47 : decode cX4_drawLoad 47 = .ok (.iconst 0, 1) := by decide +kernel
theorem dX4_drawLoad_48 : decode cX4_drawLoad 48 = .ok (.istore_n 3, 1) := by decide +kernel
theorem dX4_drawLoad_49 : decode cX4_drawLoad 49 = .ok (.iconst 0, 1) := by decide +kernel
theorem dX4_drawLoad_50 : decode cX4_drawLoad 50 = .ok (.istore 4, 2) := by decide +kernel
theorem dX4_drawLoad_52 : decode cX4_drawLoad 52 = .ok (.iconst 0, 1) := by decide +kernel
theorem dX4_drawLoad_53 : decode cX4_drawLoad 53 = .ok (.istore 5, 2) := by decide +kernel
theorem dX4_drawLoad_55 : decode cX4_drawLoad 55 = .ok (.iload 5, 2) := by decide +kernel
theorem dX4_drawLoad_57 : decode cX4_drawLoad 57 = .ok (.bipush 6, 2) := by decide +kernel
theorem dX4_drawLoad_59 : decode cX4_drawLoad 59 = .ok (.if_icmp .ge 33, 3) := by decide +kernel
theorem dX4_drawLoad_62 : decode cX4_drawLoad 62 = .ok (.iload 4, 2) := by decide +kernel
theorem dX4_drawLoad_64 : decode cX4_drawLoad 64 = .ok (.aload_n 0, 1) := by decide +kernel
theorem dX4_drawLoad_65 : decode cX4_drawLoad 65 = .ok (.getfield 18, 3) := by decide +kernel
theorem dX4_drawLoad_68 : decode cX4_drawLoad 68 = .ok (.iload_n 1, 1) := by decide +kernel
theorem dX4_drawLoad_69 : decode cX4_drawLoad 69 = .ok (.iload 5, 2) := by decide +kernel
theorem dX4_drawLoad_71 : decode cX4_drawLoad 71 = .ok (.invokevirtual 49, 3) := by decide +kernel
theorem dX4_drawLoad_74 : decode cX4_drawLoad 74 = .ok (.iadd, 1) := by decide +kernel
theorem dX4_drawLoad_75 : decode cX4_drawLoad 75 = .ok (.istore 4, 2) := by decide +kernel
theorem dX4_drawLoad_77 : decode cX4_drawLoad 77 = .ok (.iload 4, 2) := by decide +kernel
theorem dX4_drawLoad_79 : decode cX4_drawLoad 79 = .ok (.iload_n 3, 1) := by decide +kernel
theorem dX4_drawLoad_80 : decode cX4_drawLoad 80 = .ok (.if_icmp .le 6, 3) := by decide +kernel
theorem dX4_drawLoad_83 : decode cX4_drawLoad 83 = .ok (.iload 5, 2) := by decide +kernel
theorem dX4_drawLoad_85 : decode cX4_drawLoad 85 = .ok (.ireturn, 1) := by decide +kernel
theorem dX4_drawLoad_86 : decode cX4_drawLoad 86 = .ok (.iinc 5 1, 3) := by decide +kernel
theorem dX4_drawLoad_89 : decode cX4_drawLoad 89 = .ok (.goto (-34), 3) := by decide +kernel
theorem dX4_drawLoad_92 : decode cX4_drawLoad 92 = .ok (.iconst 5, 1) := by decide +kernel
theorem dX4_drawLoad_93 : decode cX4_drawLoad 93 = .ok (.ireturn, 1) := by decide +kernel
theorem dX4_corrected_0 : decode cX4_corrected 0 = .ok (.aload_n 0, 1) := by decide +kernel
theorem dX4_corrected_1 : decode cX4_corrected 1 = .ok (.getfield 12, 3) := by decide +kernel
theorem dX4_corrected_4 : decode cX4_corrected 4 = .ok (.iload_n 3, 1) := by decide +kernel
theorem dX4_corrected_5 : decode cX4_corrected 5 = .ok (.invokevirtual 58, 3) := by decide +kernel
theorem dX4_corrected_8 : decode cX4_corrected 8 = .ok (.istore 5, 2) := by decide +kernel
theorem dX4_corrected_10 : decode cX4_corrected 10 = .ok (.aload_n 0, 1) := by decide +kernel
theorem dX4_corrected_11 : decode cX4_corrected 11 = .ok (.getfield 18, 3) := by decide +kernel
theorem dX4_corrected_14 : decode cX4_corrected 14 = .ok (.iload_n 3, 1) := by decide +kernel
theorem dX4_corrected_15 : decode cX4_corrected 15 = .ok (.iload 4, 2) := by decide +kernel
theorem dX4_corrected_17 : decode cX4_corrected 17 = .ok (.invokevirtual 49, 3) := by decide +kernel
theorem dX4_corrected_20 : decode cX4_corrected 20 = .ok (.istore 6, 2) := by decide +kernel
theorem dX4_corrected_22 : decode cX4_corrected 22 = .ok (.iload 5, 2) := by decide +kernel
theorem dX4_corrected_24 : decode cX4_corrected 24 = .ok (.ifCond .le 8, 3) := by decide +kernel
theorem dX4_corrected_27 : decode cX4_corrected 27 = .ok (.iload 6, 2) := by decide +kernel
theorem dX4_corrected_29 : decode cX4_corrected 29 = .ok (.ifCond .gt 5, 3) := by decide +kernel
theorem dX4_corrected_32 : decode cX4_corrected 32 = .ok (.dconst 0, 1) := by decide +kernel
theorem dX4_corrected_33 : decode cX4_corrected 33 = .ok (.dreturn, 1) := by decide +kernel
theorem dX4_corrected_34 : decode cX4_corrected 34 = .ok (.dload_n 1, 1) := by decide +kernel
theorem dX4_corrected_35 : decode cX4_corrected 35 = .ok (.aload_n 0, 1) := by decide +kernel
theorem dX4_corrected_36 : decode cX4_corrected 36 = .ok (.getfield 12, 3) := by decide +kernel
theorem dX4_corrected_39 : decode cX4_corrected 39 = .ok (.iload_n 3, 1) := by decide +kernel
theorem dX4_corrected_40 : decode cX4_corrected 40 = .ok (.iload 4, 2) := by decide +kernel
theorem dX4_corrected_42 : decode cX4_corrected 42 = .ok (.invokevirtual 49, 3) := by decide +kernel
theorem dX4_corrected_45 : decode cX4_corrected 45 = .ok (.i2d, 1) := by decide +kernel
theorem dX4_corrected_46 : decode cX4_corrected 46 = .ok (.dmul, 1) := by decide +kernel
theorem dX4_corrected_47 : decode cX4_corrected 47 = .ok (.aload_n 0, 1) := by decide +kernel
theorem dX4_corrected_48 : decode cX4_corrected 48 = .ok (.getfield 18, 3) := by decide +kernel
theorem dX4_corrected_51 : decode cX4_corrected 51 = .ok (.iload_n 3, 1) := by decide +kernel
theorem dX4_corrected_52 : decode cX4_corrected 52 = .ok (.invokevirtual 58, 3) := by decide +kernel
theorem dX4_corrected_55 : decode cX4_corrected 55 = .ok (.i2d, 1) := by decide +kernel
theorem dX4_corrected_56 : decode cX4_corrected 56 = .ok (.dmul, 1) := by decide +kernel
theorem dX4_corrected_57 : decode cX4_corrected 57 = .ok (.iload 5, 2) := by decide +kernel
theorem dX4_corrected_59 : decode cX4_corrected 59 = .ok (.i2d, 1) := by decide +kernel
theorem dX4_corrected_60 : decode cX4_corrected 60 = .ok (.ddiv, 1) := by decide +kernel
theorem dX4_corrected_61 : decode cX4_corrected 61 = .ok (.iload 6, 2) := by decide +kernel
theorem dX4_corrected_63 : decode cX4_corrected 63 = .ok (.i2d, 1) := by decide +kernel
theorem dX4_corrected_64 : decode cX4_corrected 64 = .ok (.ddiv, 1) := by decide +kernel
theorem dX4_corrected_65 : decode cX4_corrected 65 = .ok (.dreturn, 1) := by decide +kernel
theorem dX4_copyFrom_0 : decode cX4_copyFrom 0 = .ok (.aload_n 0, 1) := by decide +kernel
theorem dX4_copyFrom_1 : decode cX4_copyFrom 1 = .ok (.getfield 12, 3) := by decide +kernel
theorem dX4_copyFrom_4 : decode cX4_copyFrom 4 = .ok (.aload_n 1, 1) := by decide +kernel
theorem dX4_copyFrom_5 : decode cX4_copyFrom 5 = .ok (.getfield 12, 3) := by decide +kernel
theorem dX4_copyFrom_8 : decode cX4_copyFrom 8 = .ok (.invokevirtual 90, 3) := by decide +kernel
theorem dX4_copyFrom_11 : decode cX4_copyFrom 11 = .ok (.aload_n 0, 1) := by decide +kernel
theorem dX4_copyFrom_12 : decode cX4_copyFrom 12 = .ok (.getfield 18, 3) := by decide +kernel
theorem dX4_copyFrom_15 : decode cX4_copyFrom 15 = .ok (.aload_n 1, 1) := by decide +kernel
theorem dX4_copyFrom_16 : decode cX4_copyFrom 16 = .ok (.getfield 18, 3) := by decide +kernel
theorem dX4_copyFrom_19 : decode cX4_copyFrom 19 = .ok (.invokevirtual 90, 3) := by decide +kernel
theorem dX4_copyFrom_22 : decode cX4_copyFrom 22 = .ok (.aload_n 0, 1) := by decide +kernel
theorem dX4_copyFrom_23 : decode cX4_copyFrom 23 = .ok (.getfield 24, 3) := by decide +kernel
theorem dX4_copyFrom_26 : decode cX4_copyFrom 26 = .ok (.aload_n 1, 1) := by decide +kernel
theorem dX4_copyFrom_27 : decode cX4_copyFrom 27 = .ok (.getfield 24, 3) := by decide +kernel
theorem dX4_copyFrom_30 : decode cX4_copyFrom 30 = .ok (.invokevirtual 94, 3) := by decide +kernel
theorem dX4_copyFrom_33 : decode cX4_copyFrom 33 = .ok (.aload_n 0, 1) := by decide +kernel
theorem dX4_copyFrom_34 : decode cX4_copyFrom 34 = .ok (.aload_n 1, 1) := by decide +kernel
theorem dX4_copyFrom_35 : decode cX4_copyFrom 35 = .ok (.getfield 28, 3) := by decide +kernel
theorem dX4_copyFrom_38 : decode cX4_copyFrom 38 = .ok (.putfield 28, 3) := by decide +kernel
theorem dX4_copyFrom_41 : decode cX4_copyFrom 41 = .ok (.aload_n 0, 1) := by decide +kernel
theorem dX4_copyFrom_42 : decode cX4_copyFrom 42 = .ok (.aload_n 1, 1) := by decide +kernel
theorem dX4_copyFrom_43 : decode cX4_copyFrom 43 = .ok (.getfield 32, 3) := by decide +kernel
theorem dX4_copyFrom_46 : decode cX4_copyFrom 46 = .ok (.putfield 32, 3) := by decide +kernel
theorem dX4_copyFrom_49 : decode cX4_copyFrom 49 = .ok (.aload_n 0, 1) := by decide +kernel
theorem dX4_copyFrom_50 : decode cX4_copyFrom 50 = .ok (.aload_n 1, 1) := by decide +kernel
theorem dX4_copyFrom_51 : decode cX4_copyFrom 51 = .ok (.getfield 35, 3) := by decide +kernel
theorem dX4_copyFrom_54 : decode cX4_copyFrom 54 = .ok (.putfield 35, 3) := by decide +kernel
theorem dX4_copyFrom_57 : decode cX4_copyFrom 57 = .ok (.return_, 1) := by decide +kernel
theorem dX5_init_0 : decode cX5_init 0 = .ok (.aload_n 0, 1) := by decide +kernel
theorem dX5_init_1 : decode cX5_init 1 = .ok (.invokespecial 3, 3) := by decide +kernel
theorem dX5_init_4 : decode cX5_init 4 = .ok (.aload_n 0, 1) := by decide +kernel
theorem dX5_init_5 : decode cX5_init 5 = .ok (.bipush 6, 2) := by decide +kernel
theorem dX5_init_7 : decode cX5_init 7 = .ok (.newarray .int, 2) := by decide +kernel
theorem dX5_init_9 : decode cX5_init 9 = .ok (.putfield 9, 3) := by decide +kernel
theorem dX5_init_12 : decode cX5_init 12 = .ok (.return_, 1) := by decide +kernel
theorem dX5_clear_0 : decode cX5_clear 0 = .ok (.aload_n 0, 1) := by decide +kernel
theorem dX5_clear_1 : decode cX5_clear 1 = .ok (.iconst 0, 1) := by decide +kernel
theorem dX5_clear_2 : decode cX5_clear 2 = .ok (.putfield 15, 3) := by decide +kernel
theorem dX5_clear_5 : decode cX5_clear 5 = .ok (.aload_n 0, 1) := by decide +kernel
theorem dX5_clear_6 : decode cX5_clear 6 = .ok (.iconst 0, 1) := by decide +kernel
theorem dX5_clear_7 : decode cX5_clear 7 = .ok (.putfield 19, 3) := by decide +kernel
theorem dX5_clear_10 : decode cX5_clear 10 = .ok (.aload_n 0, 1) := by decide +kernel
theorem dX5_clear_11 : decode cX5_clear 11 = .ok (.dconst 0, 1) := by decide +kernel
theorem dX5_clear_12 : decode cX5_clear 12 = .ok (.putfield 22, 3) := by decide +kernel
theorem dX5_clear_15 : decode cX5_clear 15 = .ok (.aload_n 0, 1) := by decide +kernel
theorem dX5_clear_16 : decode cX5_clear 16 = .ok (.dconst 0, 1) := by decide +kernel
theorem dX5_clear_17 : decode cX5_clear 17 = .ok (.putfield 26, 3) := by decide +kernel
theorem dX5_clear_20 : decode cX5_clear 20 = .ok (.aload_n 0, 1) := by decide +kernel
theorem dX5_clear_21 : decode cX5_clear 21 = .ok (.dconst 0, 1) := by decide +kernel
theorem dX5_clear_22 : decode cX5_clear 22 = .ok (.putfield 29, 3) := by decide +kernel
theorem dX5_clear_25 : decode cX5_clear 25 = .ok (.aload_n 0, 1) := by decide +kernel
theorem dX5_clear_26 : decode cX5_clear 26 = .ok (.dconst 0, 1) := by decide +kernel
theorem dX5_clear_27 : decode cX5_clear 27 = .ok (.putfield 32, 3) := by decide +kernel
theorem dX5_clear_30 : decode cX5_clear 30 = .ok (.return_, 1) := by decide +kernel
theorem dX5_setLatestLoad_0 : decode cX5_setLatestLoad 0 = .ok (.iload_n 1, 1) := by decide +kernel
theorem dX5_setLatestLoad_1 : decode cX5_setLatestLoad 1 = .ok (.ifCond .lt 19, 3) := by decide +kernel
theorem dX5_setLatestLoad_4 : decode cX5_setLatestLoad 4 = .ok (.iload_n 1, 1) := by decide +kernel
theorem dX5_setLatestLoad_5 : decode cX5_setLatestLoad 5 = .ok (.aload_n 0, 1) := by decide +kernel
theorem dX5_setLatestLoad_6 : decode cX5_setLatestLoad 6 = .ok (.getfield 9, 3) := by decide +kernel
theorem dX5_setLatestLoad_9 : decode cX5_setLatestLoad 9 = .ok (.arraylength, 1) := by decide +kernel
theorem dX5_setLatestLoad_10 : decode cX5_setLatestLoad 10 = .ok (.if_icmp .ge 10, 3) := by decide +kernel
theorem dX5_setLatestLoad_13 : decode cX5_setLatestLoad 13 = .ok (.aload_n 0, 1) := by decide +kernel
theorem dX5_setLatestLoad_14 : decode cX5_setLatestLoad 14 = .ok (.getfield 9, 3) := by decide +kernel
theorem dX5_setLatestLoad_17 : decode cX5_setLatestLoad 17 = .ok (.iload_n 1, 1) := by decide +kernel
theorem dX5_setLatestLoad_18 : decode cX5_setLatestLoad 18 = .ok (.iload_n 2, 1) := by decide +kernel
theorem dX5_setLatestLoad_19 : decode cX5_setLatestLoad 19 = .ok (.iastore, 1) := by decide +kernel
theorem dX5_setLatestLoad_20 : decode cX5_setLatestLoad 20 = .ok (.return_, 1) := by decide +kernel
theorem dX5_latestLoadOf_0 : decode cX5_latestLoadOf 0 = .ok (.aload_n 0, 1) := by decide +kernel
theorem dX5_latestLoadOf_1 : decode cX5_latestLoadOf 1 = .ok (.getfield 15, 3) := by decide +kernel
theorem dX5_latestLoadOf_4 : decode cX5_latestLoadOf 4 = .ok (.ifCond .le 20, 3) := by decide +kernel
theorem dX5_latestLoadOf_7 : decode cX5_latestLoadOf 7 = .ok (.iload_n 1, 1) := by decide +kernel
theorem dX5_latestLoadOf_8 : decode cX5_latestLoadOf 8 = .ok (.ifCond .lt 16, 3) := by decide +kernel
theorem dX5_latestLoadOf_11 : decode cX5_latestLoadOf 11 = .ok (.iload_n 1, 1) := by decide +kernel
theorem dX5_latestLoadOf_12 : decode cX5_latestLoadOf 12 = .ok (.aload_n 0, 1) := by decide +kernel
theorem dX5_latestLoadOf_13 : decode cX5_latestLoadOf 13 = .ok (.getfield 9, 3) := by decide +kernel
theorem dX5_latestLoadOf_16 : decode cX5_latestLoadOf 16 = .ok (.arraylength, 1) := by decide +kernel
theorem dX5_latestLoadOf_17 : decode cX5_latestLoadOf 17 = .ok (.if_icmp .ge 7, 3) := by decide +kernel
theorem dX5_latestLoadOf_20 : decode cX5_latestLoadOf 20 = .ok (.iconst 1, 1) := by decide +kernel
theorem dX5_latestLoadOf_21 : decode cX5_latestLoadOf 21 = .ok (.goto 4, 3) := by decide +kernel
theorem dX5_latestLoadOf_24 : decode cX5_latestLoadOf 24 = .ok (.iconst 0, 1) := by decide +kernel
theorem dX5_latestLoadOf_25 : decode cX5_latestLoadOf 25 = .ok (.istore_n 2, 1) := by decide +kernel
theorem dX5_latestLoadOf_26 : decode cX5_latestLoadOf 26 = .ok (.iload_n 2, 1) := by decide +kernel
theorem dX5_latestLoadOf_27 : decode cX5_latestLoadOf 27 = .ok (.ifCond .eq 12, 3) := by decide +kernel
theorem dX5_latestLoadOf_30 : decode cX5_latestLoadOf 30 = .ok (.aload_n 0, 1) := by decide +kernel
theorem dX5_latestLoadOf_31 : decode cX5_latestLoadOf 31 = .ok (.getfield 9, 3) := by decide +kernel
theorem dX5_latestLoadOf_34 : decode cX5_latestLoadOf 34 = .ok (.iload_n 1, 1) := by decide +kernel
theorem dX5_latestLoadOf_35 : decode cX5_latestLoadOf 35 = .ok (.iaload, 1) := by decide +kernel
theorem dX5_latestLoadOf_36 : decode cX5_latestLoadOf 36 = .ok (.goto 4, 3) := by decide +kernel
theorem dX5_latestLoadOf_39 : decode cX5_latestLoadOf 39 = .ok (.iconst (-1), 1) := by decide +kernel
theorem dX5_latestLoadOf_40 : decode cX5_latestLoadOf 40 = .ok (.ireturn, 1) := by decide +kernel
theorem dX5_add_0 : decode cX5_add 0 = .ok (.aload_n 0, 1) := by decide +kernel
theorem dX5_add_1 : decode cX5_add 1 = .ok (.dup, 1) := by decide +kernel
theorem dX5_add_2 : decode cX5_add 2 = .ok (.getfield 15, 3) := by decide +kernel
theorem dX5_add_5 : decode cX5_add 5 = .ok (.iconst 1, 1) := by decide +kernel
theorem dX5_add_6 : decode cX5_add 6 = .ok (.iadd, 1) := by decide +kernel
theorem dX5_add_7 : decode cX5_add 7 = .ok (.putfield 15, 3) := by decide +kernel
theorem dX5_add_10 : decode cX5_add 10 = .ok (.iload_n 3, 1) := by decide +kernel
theorem dX5_add_11 : decode cX5_add 11 = .ok (.ifCond .eq 23, 3) := by decide +kernel
theorem dX5_add_14 : decode cX5_add 14 = .ok (.aload_n 0, 1) := by decide +kernel
theorem dX5_add_15 : decode cX5_add 15 = .ok (.dup, 1) := by decide +kernel
theorem dX5_add_16 : decode cX5_add 16 = .ok (.getfield 19, 3) := by decide +kernel
theorem dX5_add_19 : decode cX5_add 19 = .ok (.iconst 1, 1) := by decide +kernel
theorem dX5_add_20 : decode cX5_add 20 = .ok (.iadd, 1) := by decide +kernel
theorem dX5_add_21 : decode cX5_add 21 = .ok (.putfield 19, 3) := by decide +kernel
theorem dX5_add_24 : decode cX5_add 24 = .ok (.aload_n 0, 1) := by decide +kernel
theorem dX5_add_25 : decode cX5_add 25 = .ok (.dup, 1) := by decide +kernel
theorem dX5_add_26 : decode cX5_add 26 = .ok (.getfield 22, 3) := by decide +kernel
theorem dX5_add_29 : decode cX5_add 29 = .ok (.dload_n 1, 1) := by decide +kernel
theorem dX5_add_30 : decode cX5_add 30 = .ok (.dadd, 1) := by decide +kernel
theorem dX5_add_31 : decode cX5_add 31 = .ok (.putfield 22, 3) := by decide +kernel
theorem dX5_add_34 : decode cX5_add 34 = .ok (.aload_n 0, 1) := by decide +kernel
theorem dX5_add_35 : decode cX5_add 35 = .ok (.dup, 1) := by decide +kernel
theorem dX5_add_36 : decode cX5_add 36 = .ok (.getfield 26, 3) := by decide +kernel
theorem dX5_add_39 : decode cX5_add 39 = .ok (.dload_n 1, 1) := by decide +kernel
theorem dX5_add_40 : decode cX5_add 40 = .ok (.dadd, 1) := by decide +kernel
theorem dX5_add_41 : decode cX5_add 41 = .ok (.putfield 26, 3) := by decide +kernel
theorem dX5_add_44 : decode cX5_add 44 = .ok (.aload_n 0, 1) := by decide +kernel
theorem dX5_add_45 : decode cX5_add 45 = .ok (.dup, 1) := by decide +kernel
theorem dX5_add_46 : decode cX5_add 46 = .ok (.getfield 29, 3) := by decide +kernel
theorem dX5_add_49 : decode cX5_add 49 = .ok (.dload_n 1, 1) := by decide +kernel
theorem dX5_add_50 : decode cX5_add 50 = .ok (.dload_n 1, 1) := by decide +kernel
theorem dX5_add_51 : decode cX5_add 51 = .ok (.dmul, 1) := by decide +kernel
theorem dX5_add_52 : decode cX5_add 52 = .ok (.dadd, 1) := by decide +kernel
theorem dX5_add_53 : decode cX5_add 53 = .ok (.putfield 29, 3) := by decide +kernel
theorem dX5_add_56 : decode cX5_add 56 = .ok (.aload_n 0, 1) := by decide +kernel
theorem dX5_add_57 : decode cX5_add 57 = .ok (.dload_n 1, 1) := by decide +kernel
theorem dX5_add_58 : decode cX5_add 58 = .ok (.putfield 32, 3) := by decide +kernel
theorem dX5_add_61 : decode cX5_add 61 = .ok (.return_, 1) := by decide +kernel
theorem dX5_shareOf_0 : decode cX5_shareOf 0 = .ok (.aload_n 0, 1) := by decide +kernel
theorem dX5_shareOf_1 : decode cX5_shareOf 1 = .ok (.getfield 15, 3) := by decide +kernel
theorem dX5_shareOf_4 : decode cX5_shareOf 4 = .ok (.ifCond .le 13, 3) := by decide +kernel
theorem dX5_shareOf_7 : decode cX5_shareOf 7 = .ok (.dload_n 1, 1) := by decide +kernel
theorem dX5_shareOf_8 : decode cX5_shareOf 8 = .ok (.aload_n 0, 1) := by decide +kernel
theorem dX5_shareOf_9 : decode cX5_shareOf 9 = .ok (.getfield 15, 3) := by decide +kernel
theorem dX5_shareOf_12 : decode cX5_shareOf 12 = .ok (.i2d, 1) := by decide +kernel
theorem dX5_shareOf_13 : decode cX5_shareOf 13 = .ok (.ddiv, 1) := by decide +kernel
theorem dX5_shareOf_14 : decode cX5_shareOf 14 = .ok (.goto 4, 3) := by decide +kernel
theorem dX5_shareOf_17 : decode cX5_shareOf 17 = .ok (.dconst 0, 1) := by decide +kernel
theorem dX5_shareOf_18 : decode cX5_shareOf 18 = .ok (.dreturn, 1) := by decide +kernel
theorem dX5_effectiveNumber_0 : decode cX5_effectiveNumber 0 = .ok (.aload_n 0, 1) := by decide +kernel
theorem dX5_effectiveNumber_1 : decode cX5_effectiveNumber 1 = .ok (.getfield 29, 3) := by decide +kernel
theorem dX5_effectiveNumber_4 : decode cX5_effectiveNumber 4 = .ok (.dconst 0, 1) := by decide +kernel
theorem dX5_effectiveNumber_5 : decode cX5_effectiveNumber 5 = .ok (.dcmp .l, 1) := by decide +kernel
theorem dX5_effectiveNumber_6 : decode cX5_effectiveNumber 6 = .ok (.ifCond .le 20, 3) := by decide +kernel
theorem dX5_effectiveNumber_9 : decode cX5_effectiveNumber 9 = .ok (.aload_n 0, 1) := by decide +kernel
theorem dX5_effectiveNumber_10 : decode cX5_effectiveNumber 10 = .ok (.getfield 26, 3) := by decide +kernel
theorem dX5_effectiveNumber_13 : decode cX5_effectiveNumber 13 = .ok (.aload_n 0, 1) := by decide +kernel
theorem dX5_effectiveNumber_14 : decode cX5_effectiveNumber 14 = .ok (.getfield 26, 3) := by decide +kernel
theorem dX5_effectiveNumber_17 : decode cX5_effectiveNumber 17 = .ok (.dmul, 1) := by decide +kernel
theorem dX5_effectiveNumber_18 : decode cX5_effectiveNumber 18 = .ok (.aload_n 0, 1) := by decide +kernel
theorem dX5_effectiveNumber_19 : decode cX5_effectiveNumber 19 = .ok (.getfield 29, 3) := by decide +kernel
theorem dX5_effectiveNumber_22 : decode cX5_effectiveNumber 22 = .ok (.ddiv, 1) := by decide +kernel
theorem dX5_effectiveNumber_23 : decode cX5_effectiveNumber 23 = .ok (.goto 4, 3) := by decide +kernel
theorem dX5_effectiveNumber_26 : decode cX5_effectiveNumber 26 = .ok (.dconst 0, 1) := by decide +kernel
theorem dX5_effectiveNumber_27 : decode cX5_effectiveNumber 27 = .ok (.dreturn, 1) := by decide +kernel
theorem dX5_copyFrom_0 : decode cX5_copyFrom 0 = .ok (.iconst 0, 1) := by decide +kernel
theorem dX5_copyFrom_1 : decode cX5_copyFrom 1 = .ok (.istore_n 2, 1) := by decide +kernel
theorem dX5_copyFrom_2 : decode cX5_copyFrom 2 = .ok (.iload_n 2, 1) := by decide +kernel
theorem dX5_copyFrom_3 : decode cX5_copyFrom 3 = .ok (.aload_n 0, 1) := by decide +kernel
theorem dX5_copyFrom_4 : decode cX5_copyFrom 4 = .ok (.getfield 9, 3) := by decide +kernel
theorem dX5_copyFrom_7 : decode cX5_copyFrom 7 = .ok (.arraylength, 1) := by decide +kernel
theorem dX5_copyFrom_8 : decode cX5_copyFrom 8 = .ok (.if_icmp .ge 34, 3) := by decide +kernel
theorem dX5_copyFrom_11 : decode cX5_copyFrom 11 = .ok (.aload_n 0, 1) := by decide +kernel
theorem dX5_copyFrom_12 : decode cX5_copyFrom 12 = .ok (.getfield 9, 3) := by decide +kernel
theorem dX5_copyFrom_15 : decode cX5_copyFrom 15 = .ok (.iload_n 2, 1) := by decide +kernel
theorem dX5_copyFrom_16 : decode cX5_copyFrom 16 = .ok (.iload_n 2, 1) := by decide +kernel
theorem dX5_copyFrom_17 : decode cX5_copyFrom 17 = .ok (.aload_n 1, 1) := by decide +kernel
theorem dX5_copyFrom_18 : decode cX5_copyFrom 18 = .ok (.getfield 9, 3) := by decide +kernel
theorem dX5_copyFrom_21 : decode cX5_copyFrom 21 = .ok (.arraylength, 1) := by decide +kernel
theorem dX5_copyFrom_22 : decode cX5_copyFrom 22 = .ok (.if_icmp .ge 12, 3) := by decide +kernel
theorem dX5_copyFrom_25 : decode cX5_copyFrom 25 = .ok (.aload_n 1, 1) := by decide +kernel
theorem dX5_copyFrom_26 : decode cX5_copyFrom 26 = .ok (.getfield 9, 3) := by decide +kernel
theorem dX5_copyFrom_29 : decode cX5_copyFrom 29 = .ok (.iload_n 2, 1) := by decide +kernel
theorem dX5_copyFrom_30 : decode cX5_copyFrom 30 = .ok (.iaload, 1) := by decide +kernel
theorem dX5_copyFrom_31 : decode cX5_copyFrom 31 = .ok (.goto 4, 3) := by decide +kernel
theorem dX5_copyFrom_34 : decode cX5_copyFrom 34 = .ok (.iconst 0, 1) := by decide +kernel
theorem dX5_copyFrom_35 : decode cX5_copyFrom 35 = .ok (.iastore, 1) := by decide +kernel
theorem dX5_copyFrom_36 : decode cX5_copyFrom 36 = .ok (.iinc 2 1, 3) := by decide +kernel
theorem dX5_copyFrom_39 : decode cX5_copyFrom 39 = .ok (.goto (-37), 3) := by decide +kernel
theorem dX5_copyFrom_42 : decode cX5_copyFrom 42 = .ok (.aload_n 0, 1) := by decide +kernel
theorem dX5_copyFrom_43 : decode cX5_copyFrom 43 = .ok (.aload_n 1, 1) := by decide +kernel
theorem dX5_copyFrom_44 : decode cX5_copyFrom 44 = .ok (.getfield 15, 3) := by decide +kernel
theorem dX5_copyFrom_47 : decode cX5_copyFrom 47 = .ok (.putfield 15, 3) := by decide +kernel
theorem dX5_copyFrom_50 : decode cX5_copyFrom 50 = .ok (.aload_n 0, 1) := by decide +kernel
theorem dX5_copyFrom_51 : decode cX5_copyFrom 51 = .ok (.aload_n 1, 1) := by decide +kernel
theorem dX5_copyFrom_52 : decode cX5_copyFrom 52 = .ok (.getfield 19, 3) := by decide +kernel
theorem dX5_copyFrom_55 : decode cX5_copyFrom 55 = .ok (.putfield 19, 3) := by decide +kernel
theorem dX5_copyFrom_58 : decode cX5_copyFrom 58 = .ok (.aload_n 0, 1) := by decide +kernel
theorem dX5_copyFrom_59 : decode cX5_copyFrom 59 = .ok (.aload_n 1, 1) := by decide +kernel
theorem dX5_copyFrom_60 : decode cX5_copyFrom 60 = .ok (.getfield 22, 3) := by decide +kernel
theorem dX5_copyFrom_63 : decode cX5_copyFrom 63 = .ok (.putfield 22, 3) := by decide +kernel
theorem dX5_copyFrom_66 : decode cX5_copyFrom 66 = .ok (.aload_n 0, 1) := by decide +kernel
theorem dX5_copyFrom_67 : decode cX5_copyFrom 67 = .ok (.aload_n 1, 1) := by decide +kernel
theorem dX5_copyFrom_68 : decode cX5_copyFrom 68 = .ok (.getfield 26, 3) := by decide +kernel
theorem dX5_copyFrom_71 : decode cX5_copyFrom 71 = .ok (.putfield 26, 3) := by decide +kernel
theorem dX5_copyFrom_74 : decode cX5_copyFrom 74 = .ok (.aload_n 0, 1) := by decide +kernel
theorem dX5_copyFrom_75 : decode cX5_copyFrom 75 = .ok (.aload_n 1, 1) := by decide +kernel
theorem dX5_copyFrom_76 : decode cX5_copyFrom 76 = .ok (.getfield 29, 3) := by decide +kernel
theorem dX5_copyFrom_79 : decode cX5_copyFrom 79 = .ok (.putfield 29, 3) := by decide +kernel
theorem dX5_copyFrom_82 : decode cX5_copyFrom 82 = .ok (.aload_n 0, 1) := by decide +kernel
theorem dX5_copyFrom_83 : decode cX5_copyFrom 83 = .ok (.aload_n 1, 1) := by decide +kernel
theorem dX5_copyFrom_84 : decode cX5_copyFrom 84 = .ok (.getfield 32, 3) := by decide +kernel
theorem dX5_copyFrom_87 : decode cX5_copyFrom 87 = .ok (.putfield 32, 3) := by decide +kernel
theorem dX5_copyFrom_90 : decode cX5_copyFrom 90 = .ok (.return_, 1) := by decide +kernel
theorem dX6_init_0 : decode cX6_init 0 = .ok (.aload_n 0, 1) := by decide +kernel
theorem dX6_init_1 : decode cX6_init 1 = .ok (.invokespecial 3, 3) := by decide +kernel
theorem dX6_init_4 : decode cX6_init 4 = .ok (.aload_n 0, 1) := by decide +kernel
theorem dX6_init_5 : decode cX6_init 5 = .ok (.iconst 1, 1) := by decide +kernel
theorem dX6_init_6 : decode cX6_init 6 = .ok (.putfield 9, 3) := by decide +kernel
theorem dX6_init_9 : decode cX6_init 9 = .ok (.aload_n 0, 1) := by decide +kernel
theorem dX6_init_10 : decode cX6_init 10 = .ok (.iconst 0, 1) := by decide +kernel
theorem dX6_init_11 : decode cX6_init 11 = .ok (.putfield 15, 3) := by decide +kernel
theorem dX6_init_14 : decode cX6_init 14 = .ok (.aload_n 0, 1) := by decide +kernel
theorem dX6_init_15 : decode cX6_init 15 = .ok (.iconst 0, 1) := by decide +kernel
theorem dX6_init_16 : decode cX6_init 16 = .ok (.putfield 18, 3) := by decide +kernel
theorem dX6_init_19 : decode cX6_init 19 = .ok (.return_, 1) := by decide +kernel
theorem dX6_read_0 : decode cX6_read 0 = .ok (.iconst 0, 1) := by decide +kernel
theorem dX6_read_1 : decode cX6_read 1 = .ok (.istore_n 2, 1) := by decide +kernel
theorem dX6_read_2 : decode cX6_read 2 = .ok (.iload_n 2, 1) := by decide +kernel
theorem dX6_read_3 : decode cX6_read 3 = .ok (.aload_n 1, 1) := by decide +kernel
theorem dX6_read_4 : decode cX6_read 4 = .ok (.getfield 22, 3) := by decide +kernel
theorem dX6_read_7 : decode cX6_read 7 = .ok (.if_icmp .ge 23, 3) := by decide +kernel
theorem dX6_read_10 : decode cX6_read 10 = .ok (.aload_n 0, 1) := by decide +kernel
theorem dX6_read_11 : decode cX6_read 11 = .ok (.aload_n 1, 1) := by decide +kernel
theorem dX6_read_12 : decode cX6_read 12 = .ok (.iload_n 2, 1) := by decide +kernel
theorem dX6_read_13 : decode cX6_read 13 = .ok (.invokevirtual 27, 3) := by decide +kernel
theorem dX6_read_16 : decode cX6_read 16 = .ok (.invokevirtual 31, 3) := by decide +kernel
theorem dX6_read_19 : decode cX6_read 19 = .ok (.ifCond .ne 5, 3) := by decide +kernel
theorem dX6_read_22 : decode cX6_read 22 = .ok (.iload_n 2, 1) := by decide +kernel
theorem dX6_read_23 : decode cX6_read 23 = .ok (.ireturn, 1) := by decide +kernel
theorem dX6_read_24 : decode cX6_read 24 = .ok (.iinc 2 1, 3) := by decide +kernel
theorem dX6_read_27 : decode cX6_read 27 = .ok (.goto (-25), 3) := by decide +kernel
theorem dX6_read_30 : decode cX6_read 30 = .ok (.aload_n 1, 1) := by decide +kernel
theorem dX6_read_31 : decode cX6_read 31 = .ok (.getfield 22, 3) := by decide +kernel
theorem dX6_read_34 : decode cX6_read 34 = .ok (.ireturn, 1) := by decide +kernel
theorem dX6_isPartComplete_0 : decode cX6_isPartComplete 0 = .ok (.aload_n 0, 1) := by decide +kernel
theorem dX6_isPartComplete_1 : decode cX6_isPartComplete 1 = .ok (.getfield 18, 3) := by decide +kernel
theorem dX6_isPartComplete_4 : decode cX6_isPartComplete 4 = .ok (.ireturn, 1) := by decide +kernel
theorem dX6_accepts_0 : decode cX6_accepts 0 = .ok (.iload_n 1, 1) := by decide +kernel
theorem dX6_accepts_1 : decode cX6_accepts 1 = .ok (.bipush 59, 2) := by decide +kernel
theorem dX6_accepts_3 : decode cX6_accepts 3 = .ok (.if_icmp .ne 8, 3) := by decide +kernel
theorem dX6_accepts_6 : decode cX6_accepts 6 = .ok (.aload_n 0, 1) := by decide +kernel
theorem dX6_accepts_7 : decode cX6_accepts 7 = .ok (.invokevirtual 35, 3) := by decide +kernel
theorem dX6_accepts_10 : decode cX6_accepts 10 = .ok (.ireturn, 1) := by decide +kernel
theorem dX6_accepts_11 : decode cX6_accepts 11 = .ok (.iload_n 1, 1) := by decide +kernel
theorem dX6_accepts_12 : decode cX6_accepts 12 = .ok (.bipush 48, 2) := by decide +kernel
theorem dX6_accepts_14 : decode cX6_accepts 14 = .ok (.if_icmp .lt 24, 3) := by decide +kernel
theorem dX6_accepts_17 : decode cX6_accepts 17 = .ok (.iload_n 1, 1) := by decide +kernel
theorem dX6_accepts_18 : decode cX6_accepts 18 = .ok (.bipush 57, 2) := by decide +kernel
theorem dX6_accepts_20 : decode cX6_accepts 20 = .ok (.if_icmp .gt 18, 3) := by decide +kernel
theorem dX6_accepts_23 : decode cX6_accepts 23 = .ok (.aload_n 0, 1) := by decide +kernel
theorem dX6_accepts_24 : decode cX6_accepts 24 = .ok (.iload_n 1, 1) := by decide +kernel
theorem dX6_accepts_25 : decode cX6_accepts 25 = .ok (.bipush 48, 2) := by decide +kernel
theorem dX6_accepts_27 : decode cX6_accepts 27 = .ok (.isub, 1) := by decide +kernel
theorem dX6_accepts_28 : decode cX6_accepts 28 = .ok (.invokevirtual 39, 3) := by decide +kernel
theorem dX6_accepts_31 : decode cX6_accepts 31 = .ok (.ifCond .eq 7, 3) := by decide +kernel
theorem dX6_accepts_34 : decode cX6_accepts 34 = .ok (.iconst 1, 1) := by decide +kernel
theorem dX6_accepts_35 : decode cX6_accepts 35 = .ok (.goto 4, 3) := by decide +kernel
theorem dX6_accepts_38 : decode cX6_accepts 38 = .ok (.iconst 0, 1) := by decide +kernel
theorem dX6_accepts_39 : decode cX6_accepts 39 = .ok (.ireturn, 1) := by decide +kernel
theorem dX6_acceptsNextPart_0 : decode cX6_acceptsNextPart 0 = .ok (.aload_n 0, 1) := by decide +kernel
theorem dX6_acceptsNextPart_1 : decode cX6_acceptsNextPart 1 = .ok (.getfield 18, 3) := by decide +kernel
theorem dX6_acceptsNextPart_4 : decode cX6_acceptsNextPart 4 = .ok (.istore_n 1, 1) := by decide +kernel
theorem dX6_acceptsNextPart_5 : decode cX6_acceptsNextPart 5 = .ok (.aload_n 0, 1) := by decide +kernel
theorem dX6_acceptsNextPart_6 : decode cX6_acceptsNextPart 6 = .ok (.dup, 1) := by decide +kernel
theorem dX6_acceptsNextPart_7 : decode cX6_acceptsNextPart 7 = .ok (.getfield 9, 3) := by decide +kernel
theorem dX6_acceptsNextPart_10 : decode cX6_acceptsNextPart 10 = .ok (.iconst 1, 1) := by decide +kernel
theorem dX6_acceptsNextPart_11 : decode cX6_acceptsNextPart 11 = .ok (.iadd, 1) := by decide +kernel
theorem dX6_acceptsNextPart_12 : decode cX6_acceptsNextPart 12 = .ok (.putfield 9, 3) := by decide +kernel
theorem dX6_acceptsNextPart_15 : decode cX6_acceptsNextPart 15 = .ok (.aload_n 0, 1) := by decide +kernel
theorem dX6_acceptsNextPart_16 : decode cX6_acceptsNextPart 16 = .ok (.iconst 0, 1) := by decide +kernel
theorem dX6_acceptsNextPart_17 : decode cX6_acceptsNextPart 17 = .ok (.putfield 15, 3) := by decide +kernel
theorem dX6_acceptsNextPart_20 : decode cX6_acceptsNextPart 20 = .ok (.aload_n 0, 1) := by decide +kernel
theorem dX6_acceptsNextPart_21 : decode cX6_acceptsNextPart 21 = .ok (.iconst 0, 1) := by decide +kernel
theorem dX6_acceptsNextPart_22 : decode cX6_acceptsNextPart 22 = .ok (.putfield 18, 3) := by decide +kernel
theorem dX6_acceptsNextPart_25 : decode cX6_acceptsNextPart 25 = .ok (.iload_n 1, 1) := by decide +kernel
theorem dX6_acceptsNextPart_26 : decode cX6_acceptsNextPart 26 = .ok (.ireturn, 1) := by decide +kernel
theorem dX6_acceptsDigit_0 : decode cX6_acceptsDigit 0 = .ok (.aload_n 0, 1) := by decide +kernel
theorem dX6_acceptsDigit_1 : decode cX6_acceptsDigit 1 = .ok (.dup, 1) := by decide +kernel
theorem dX6_acceptsDigit_2 : decode cX6_acceptsDigit 2 = .ok (.getfield 15, 3) := by decide +kernel
theorem dX6_acceptsDigit_5 : decode cX6_acceptsDigit 5 = .ok (.iconst 1, 1) := by decide +kernel
theorem dX6_acceptsDigit_6 : decode cX6_acceptsDigit 6 = .ok (.iadd, 1) := by decide +kernel
theorem dX6_acceptsDigit_7 : decode cX6_acceptsDigit 7 = .ok (.putfield 15, 3) := by decide +kernel
theorem dX6_acceptsDigit_10 : decode cX6_acceptsDigit 10 = .ok (.aload_n 0, 1) := by decide +kernel
theorem dX6_acceptsDigit_11 : decode cX6_acceptsDigit 11 = .ok (.aload_n 0, 1) := by decide +kernel
theorem dX6_acceptsDigit_12 : decode cX6_acceptsDigit 12 = .ok (.getfield 18, 3) := by decide +kernel
theorem dX6_acceptsDigit_15 : decode cX6_acceptsDigit 15 = .ok (.ifCond .ne 7, 3) := by decide +kernel
theorem dX6_acceptsDigit_18 : decode cX6_acceptsDigit 18 = .ok (.iload_n 1, 1) := by decide +kernel
theorem dX6_acceptsDigit_19 : decode cX6_acceptsDigit 19 = .ok (.ifCond .le 7, 3) := by decide +kernel
theorem dX6_acceptsDigit_22 : decode cX6_acceptsDigit 22 = .ok (.iconst 1, 1) := by decide +kernel
theorem dX6_acceptsDigit_23 : decode cX6_acceptsDigit 23 = .ok (.goto 4, 3) := by decide +kernel
theorem dX6_acceptsDigit_26 : decode cX6_acceptsDigit 26 = .ok (.iconst 0, 1) := by decide +kernel
theorem dX6_acceptsDigit_27 : decode cX6_acceptsDigit 27 = .ok (.putfield 18, 3) := by decide +kernel
theorem dX6_acceptsDigit_30 : decode cX6_acceptsDigit 30 = .ok (.aload_n 0, 1) := by decide +kernel
theorem dX6_acceptsDigit_31 : decode cX6_acceptsDigit 31 = .ok (.getfield 15, 3) := by decide +kernel
theorem dX6_acceptsDigit_34 : decode cX6_acceptsDigit 34 = .ok (.bipush 6, 2) := by decide +kernel
theorem dX6_acceptsDigit_36 : decode cX6_acceptsDigit 36 = .ok (.if_icmp .lt 19, 3) := by decide +kernel
theorem dX6_acceptsDigit_39 : decode cX6_acceptsDigit 39 = .ok (.aload_n 0, 1) := by decide +kernel
theorem dX6_acceptsDigit_40 : decode cX6_acceptsDigit 40 = .ok (.getfield 15, 3) := by decide +kernel
theorem dX6_acceptsDigit_43 : decode cX6_acceptsDigit 43 = .ok (.bipush 6, 2) := by decide +kernel
theorem dX6_acceptsDigit_45 : decode cX6_acceptsDigit 45 = .ok (.if_icmp .ne 14, 3) := by decide +kernel
theorem dX6_acceptsDigit_48 : decode cX6_acceptsDigit 48 = .ok (.aload_n 0, 1) := by decide +kernel
theorem dX6_acceptsDigit_49 : decode cX6_acceptsDigit 49 = .ok (.getfield 18, 3) := by decide +kernel
theorem dX6_acceptsDigit_52 : decode cX6_acceptsDigit 52 = .ok (.ifCond .eq 7, 3) := by decide +kernel
theorem dX6_acceptsDigit_55 : decode cX6_acceptsDigit 55 = .ok (.iconst 1, 1) := by decide +kernel
theorem dX6_acceptsDigit_56 : decode cX6_acceptsDigit 56 = .ok (.goto 4, 3) := by decide +kernel
theorem dX6_acceptsDigit_59 : decode cX6_acceptsDigit 59 = .ok (.iconst 0, 1) := by decide +kernel
theorem dX6_acceptsDigit_60 : decode cX6_acceptsDigit 60 = .ok (.ireturn, 1) := by decide +kernel
theorem dX7_init_0 : decode cX7_init 0 = .ok (.aload_n 0, 1) := by decide +kernel
theorem dX7_init_1 : decode cX7_init 1 = .ok (.invokespecial 3, 3) := by decide +kernel
theorem dX7_init_4 : decode cX7_init 4 = .ok (.aload_n 0, 1) := by decide +kernel
theorem dX7_init_5 : decode cX7_init 5 = .ok (.bipush 36, 2) := by decide +kernel
theorem dX7_init_7 : decode cX7_init 7 = .ok (.newarray .int, 2) := by decide +kernel
theorem dX7_init_9 : decode cX7_init 9 = .ok (.putfield 9, 3) := by decide +kernel
theorem dX7_init_12 : decode cX7_init 12 = .ok (.return_, 1) := by decide +kernel
theorem dX7_get_0 : decode cX7_get 0 = .ok (.iload_n 1, 1) := by decide +kernel
theorem dX7_get_1 : decode cX7_get 1 = .ok (.ifCond .lt 23, 3) := by decide +kernel
theorem dX7_get_4 : decode cX7_get 4 = .ok (.iload_n 1, 1) := by decide +kernel
theorem dX7_get_5 : decode cX7_get 5 = .ok (.bipush 6, 2) := by decide +kernel
theorem dX7_get_7 : decode cX7_get 7 = .ok (.if_icmp .ge 17, 3) := by decide +kernel
theorem dX7_get_10 : decode cX7_get 10 = .ok (.iload_n 2, 1) := by decide +kernel
theorem dX7_get_11 : decode cX7_get 11 = .ok (.ifCond .lt 13, 3) := by decide +kernel
theorem dX7_get_14 : decode cX7_get 14 = .ok (.iload_n 2, 1) := by decide +kernel
theorem dX7_get_15 : decode cX7_get 15 = .ok (.bipush 6, 2) := by decide +kernel
theorem dX7_get_17 : decode cX7_get 17 = .ok (.if_icmp .ge 7, 3) := by decide +kernel
theorem dX7_get_20 : decode cX7_get 20 = .ok (.iconst 1, 1) := by decide +kernel
theorem dX7_get_21 : decode cX7_get 21 = .ok (.goto 4, 3) := by decide +kernel
theorem dX7_get_24 : decode cX7_get 24 = .ok (.iconst 0, 1) := by decide +kernel
theorem dX7_get_25 : decode cX7_get 25 = .ok (.istore_n 3, 1) := by decide +kernel
theorem dX7_get_26 : decode cX7_get 26 = .ok (.iload_n 3, 1) := by decide +kernel
theorem dX7_get_27 : decode cX7_get 27 = .ok (.ifCond .eq 17, 3) := by decide +kernel
theorem dX7_get_30 : decode cX7_get 30 = .ok (.aload_n 0, 1) := by decide +kernel
theorem dX7_get_31 : decode cX7_get 31 = .ok (.getfield 9, 3) := by decide +kernel
theorem dX7_get_34 : decode cX7_get 34 = .ok (.iload_n 1, 1) := by decide +kernel
theorem dX7_get_35 : decode cX7_get 35 = .ok (.bipush 6, 2) := by decide +kernel
theorem dX7_get_37 : decode cX7_get 37 = .ok (.imul, 1) := by decide +kernel
theorem dX7_get_38 : decode cX7_get 38 = .ok (.iload_n 2, 1) := by decide +kernel
theorem dX7_get_39 : decode cX7_get 39 = .ok (.iadd, 1) := by decide +kernel
theorem dX7_get_40 : decode cX7_get 40 = .ok (.iaload, 1) := by decide +kernel
theorem dX7_get_41 : decode cX7_get 41 = .ok (.goto 4, 3) := by decide +kernel
theorem dX7_get_44 : decode cX7_get 44 = .ok (.iconst 0, 1) := by decide +kernel
theorem dX7_get_45 : decode cX7_get 45 = .ok (.ireturn, 1) := by decide +kernel
theorem dX7_set_0 : decode cX7_set 0 = .ok (.iload_n 1, 1) := by decide +kernel
theorem dX7_set_1 : decode cX7_set 1 = .ok (.ifCond .lt 31, 3) := by decide +kernel
theorem dX7_set_4 : decode cX7_set 4 = .ok (.iload_n 1, 1) := by decide +kernel
theorem dX7_set_5 : decode cX7_set 5 = .ok (.bipush 6, 2) := by decide +kernel
theorem dX7_set_7 : decode cX7_set 7 = .ok (.if_icmp .ge 25, 3) := by decide +kernel
theorem dX7_set_10 : decode cX7_set 10 = .ok (.iload_n 2, 1) := by decide +kernel
theorem dX7_set_11 : decode cX7_set 11 = .ok (.ifCond .lt 21, 3) := by decide +kernel
theorem dX7_set_14 : decode cX7_set 14 = .ok (.iload_n 2, 1) := by decide +kernel
theorem dX7_set_15 : decode cX7_set 15 = .ok (.bipush 6, 2) := by decide +kernel
theorem dX7_set_17 : decode cX7_set 17 = .ok (.if_icmp .ge 15, 3) := by decide +kernel
theorem dX7_set_20 : decode cX7_set 20 = .ok (.aload_n 0, 1) := by decide +kernel
theorem dX7_set_21 : decode cX7_set 21 = .ok (.getfield 9, 3) := by decide +kernel
theorem dX7_set_24 : decode cX7_set 24 = .ok (.iload_n 1, 1) := by decide +kernel
theorem dX7_set_25 : decode cX7_set 25 = .ok (.bipush 6, 2) := by decide +kernel
theorem dX7_set_27 : decode cX7_set 27 = .ok (.imul, 1) := by decide +kernel
theorem dX7_set_28 : decode cX7_set 28 = .ok (.iload_n 2, 1) := by decide +kernel
theorem dX7_set_29 : decode cX7_set 29 = .ok (.iadd, 1) := by decide +kernel
theorem dX7_set_30 : decode cX7_set 30 = .ok (.iload_n 3, 1) := by decide +kernel
theorem dX7_set_31 : decode cX7_set 31 = .ok (.iastore, 1) := by decide +kernel
theorem dX7_set_32 : decode cX7_set 32 = .ok (.return_, 1) := by decide +kernel
theorem dX7_totalOf_0 : decode cX7_totalOf 0 = .ok (.iconst 0, 1) := by decide +kernel
theorem dX7_totalOf_1 : decode cX7_totalOf 1 = .ok (.istore_n 2, 1) := by decide +kernel
theorem dX7_totalOf_2 : decode cX7_totalOf 2 = .ok (.iconst 0, 1) := by decide +kernel
theorem dX7_totalOf_3 : decode cX7_totalOf 3 = .ok (.istore_n 3, 1) := by decide +kernel
theorem dX7_totalOf_4 : decode cX7_totalOf 4 = .ok (.iload_n 3, 1) := by decide +kernel
theorem dX7_totalOf_5 : decode cX7_totalOf 5 = .ok (.bipush 6, 2) := by decide +kernel
theorem dX7_totalOf_7 : decode cX7_totalOf 7 = .ok (.if_icmp .ge 18, 3) := by decide +kernel
theorem dX7_totalOf_10 : decode cX7_totalOf 10 = .ok (.iload_n 2, 1) := by decide +kernel
theorem dX7_totalOf_11 : decode cX7_totalOf 11 = .ok (.aload_n 0, 1) := by decide +kernel
theorem dX7_totalOf_12 : decode cX7_totalOf 12 = .ok (.iload_n 1, 1) := by decide +kernel
theorem dX7_totalOf_13 : decode cX7_totalOf 13 = .ok (.iload_n 3, 1) := by decide +kernel
theorem dX7_totalOf_14 : decode cX7_totalOf 14 = .ok (.invokevirtual 15, 3) := by decide +kernel
theorem dX7_totalOf_17 : decode cX7_totalOf 17 = .ok (.iadd, 1) := by decide +kernel
theorem dX7_totalOf_18 : decode cX7_totalOf 18 = .ok (.istore_n 2, 1) := by decide +kernel
theorem dX7_totalOf_19 : decode cX7_totalOf 19 = .ok (.iinc 3 1, 3) := by decide +kernel
theorem dX7_totalOf_22 : decode cX7_totalOf 22 = .ok (.goto (-18), 3) := by decide +kernel
theorem dX7_totalOf_25 : decode cX7_totalOf 25 = .ok (.iload_n 2, 1) := by decide +kernel
theorem dX7_totalOf_26 : decode cX7_totalOf 26 = .ok (.ireturn, 1) := by decide +kernel
theorem dX7_momentOf_0 : decode cX7_momentOf 0 = .ok (.iconst 0, 1) := by decide +kernel
theorem dX7_momentOf_1 : decode cX7_momentOf 1 = .ok (.istore_n 2, 1) := by decide +kernel
theorem dX7_momentOf_2 : decode cX7_momentOf 2 = .ok (.iconst 0, 1) := by decide +kernel
theorem dX7_momentOf_3 : decode cX7_momentOf 3 = .ok (.istore_n 3, 1) := by decide +kernel
theorem dX7_momentOf_4 : decode cX7_momentOf 4 = .ok (.iload_n 3, 1) := by decide +kernel
theorem dX7_momentOf_5 : decode cX7_momentOf 5 = .ok (.bipush 6, 2) := by decide +kernel
theorem dX7_momentOf_7 : decode cX7_momentOf 7 = .ok (.if_icmp .ge 20, 3) := by decide +kernel
theorem dX7_momentOf_10 : decode cX7_momentOf 10 = .ok (.iload_n 2, 1) := by decide +kernel
theorem dX7_momentOf_11 : decode cX7_momentOf 11 = .ok (.iload_n 3, 1) := by decide +kernel
theorem dX7_momentOf_12 : decode cX7_momentOf 12 = .ok (.aload_n 0, 1) := by decide +kernel
theorem dX7_momentOf_13 : decode cX7_momentOf 13 = .ok (.iload_n 1, 1) := by decide +kernel
theorem dX7_momentOf_14 : decode cX7_momentOf 14 = .ok (.iload_n 3, 1) := by decide +kernel
theorem dX7_momentOf_15 : decode cX7_momentOf 15 = .ok (.invokevirtual 15, 3) := by decide +kernel
theorem dX7_momentOf_18 : decode cX7_momentOf 18 = .ok (.imul, 1) := by decide +kernel
theorem dX7_momentOf_19 : decode cX7_momentOf 19 = .ok (.iadd, 1) := by decide +kernel
theorem dX7_momentOf_20 : decode cX7_momentOf 20 = .ok (.istore_n 2, 1) := by decide +kernel
theorem dX7_momentOf_21 : decode cX7_momentOf 21 = .ok (.iinc 3 1, 3) := by decide +kernel
theorem dX7_momentOf_24 : decode cX7_momentOf 24 = .ok (.goto (-20), 3) := by decide +kernel
theorem dX7_momentOf_27 : decode cX7_momentOf 27 = .ok (.iload_n 2, 1) := by decide +kernel
theorem dX7_momentOf_28 : decode cX7_momentOf 28 = .ok (.ireturn, 1) := by decide +kernel
theorem dX7_leastLoadOf_0 : decode cX7_leastLoadOf 0 = .ok (.iconst 0, 1) := by decide +kernel
theorem dX7_leastLoadOf_1 : decode cX7_leastLoadOf 1 = .ok (.istore_n 2, 1) := by decide +kernel
theorem dX7_leastLoadOf_2 : decode cX7_leastLoadOf 2 = .ok (.iload_n 2, 1) := by decide +kernel
theorem dX7_leastLoadOf_3 : decode cX7_leastLoadOf 3 = .ok (.bipush 6, 2) := by decide +kernel
theorem dX7_leastLoadOf_5 : decode cX7_leastLoadOf 5 = .ok (.if_icmp .ge 20, 3) := by decide +kernel
theorem dX7_leastLoadOf_8 : decode cX7_leastLoadOf 8 = .ok (.aload_n 0, 1) := by decide +kernel
theorem dX7_leastLoadOf_9 : decode cX7_leastLoadOf 9 = .ok (.iload_n 1, 1) := by decide +kernel
theorem dX7_leastLoadOf_10 : decode cX7_leastLoadOf 10 = .ok (.iload_n 2, 1) := by decide +kernel
theorem dX7_leastLoadOf_11 : decode cX7_leastLoadOf 11 = .ok (.invokevirtual 15, 3) := by decide +kernel
theorem dX7_leastLoadOf_14 : decode cX7_leastLoadOf 14 = .ok (.ifCond .le 5, 3) := by decide +kernel
theorem dX7_leastLoadOf_17 : decode cX7_leastLoadOf 17 = .ok (.iload_n 2, 1) := by decide +kernel
theorem dX7_leastLoadOf_18 : decode cX7_leastLoadOf 18 = .ok (.ireturn, 1) := by decide +kernel
theorem dX7_leastLoadOf_19 : decode cX7_leastLoadOf 19 = .ok (.iinc 2 1, 3) := by decide +kernel
theorem dX7_leastLoadOf_22 : decode cX7_leastLoadOf 22 = .ok (.goto (-20), 3) := by decide +kernel
theorem dX7_leastLoadOf_25 : decode cX7_leastLoadOf 25 = .ok (.iconst (-1), 1) := by decide +kernel
theorem dX7_leastLoadOf_26 : decode cX7_leastLoadOf 26 = .ok (.ireturn, 1) := by decide +kernel
theorem dX7_greatestLoadOf_0 : decode cX7_greatestLoadOf 0 = .ok (.iconst 5, 1) := by decide +kernel
theorem dX7_greatestLoadOf_1 : decode cX7_greatestLoadOf 1 = .ok (.istore_n 2, 1) := by decide +kernel
theorem dX7_greatestLoadOf_2 : decode cX7_greatestLoadOf 2 = .ok (.iload_n 2, 1) := by decide +kernel
theorem dX7_greatestLoadOf_3 : decode cX7_greatestLoadOf 3 = .ok (.ifCond .lt 20, 3) := by decide +kernel
theorem dX7_greatestLoadOf_6 : decode cX7_greatestLoadOf 6 = .ok (.aload_n 0, 1) := by decide +kernel
theorem dX7_greatestLoadOf_7 : decode cX7_greatestLoadOf 7 = .ok (.iload_n 1, 1) := by decide +kernel
theorem dX7_greatestLoadOf_8 : decode cX7_greatestLoadOf 8 = .ok (.iload_n 2, 1) := by decide +kernel
theorem dX7_greatestLoadOf_9 : decode cX7_greatestLoadOf 9 = .ok (.invokevirtual 15, 3) := by decide +kernel
theorem dX7_greatestLoadOf_12 : decode cX7_greatestLoadOf 12 = .ok (.ifCond .le 5, 3) := by decide +kernel
theorem dX7_greatestLoadOf_15 : decode cX7_greatestLoadOf 15 = .ok (.iload_n 2, 1) := by decide +kernel
theorem dX7_greatestLoadOf_16 : decode cX7_greatestLoadOf 16 = .ok (.ireturn, 1) := by decide +kernel
theorem dX7_greatestLoadOf_17 : decode cX7_greatestLoadOf 17 = .ok (.iinc 2 (-1), 3) := by decide +kernel
theorem dX7_greatestLoadOf_20 : decode cX7_greatestLoadOf 20 = .ok (.goto (-18), 3) := by decide +kernel
theorem dX7_greatestLoadOf_23 : decode cX7_greatestLoadOf 23 = .ok (.iconst (-1), 1) := by decide +kernel
theorem dX7_greatestLoadOf_24 : decode cX7_greatestLoadOf 24 = .ok (.ireturn, 1) := by decide +kernel
theorem dX7_dropRow_0 : decode cX7_dropRow 0 = .ok (.iload_n 1, 1) := by decide +kernel
theorem dX7_dropRow_1 : decode cX7_dropRow 1 = .ok (.istore_n 2, 1) := by decide +kernel
theorem dX7_dropRow_2 : decode cX7_dropRow 2 = .ok (.iload_n 2, 1) := by decide +kernel
theorem dX7_dropRow_3 : decode cX7_dropRow 3 = .ok (.bipush 6, 2) := by decide +kernel
theorem dX7_dropRow_5 : decode cX7_dropRow 5 = .ok (.if_icmp .ge 37, 3) := by decide +kernel
theorem dX7_dropRow_8 : decode cX7_dropRow 8 = .ok (.iconst 0, 1) := by decide +kernel
theorem dX7_dropRow_9 : decode cX7_dropRow 9 = .ok (.istore_n 3, 1) := by decide +kernel
theorem dX7_dropRow_10 : decode cX7_dropRow 10 = .ok (.iload_n 3, 1) := by decide +kernel
theorem dX7_dropRow_11 : decode cX7_dropRow 11 = .ok (.bipush 6, 2) := by decide +kernel
theorem dX7_dropRow_13 : decode cX7_dropRow 13 = .ok (.if_icmp .ge 23, 3) := by decide +kernel
theorem dX7_dropRow_16 : decode cX7_dropRow 16 = .ok (.aload_n 0, 1) := by decide +kernel
theorem dX7_dropRow_17 : decode cX7_dropRow 17 = .ok (.iload_n 2, 1) := by decide +kernel
theorem dX7_dropRow_18 : decode cX7_dropRow 18 = .ok (.iload_n 3, 1) := by decide +kernel
theorem dX7_dropRow_19 : decode cX7_dropRow 19 = .ok (.aload_n 0, 1) := by decide +kernel
theorem dX7_dropRow_20 : decode cX7_dropRow 20 = .ok (.iload_n 2, 1) := by decide +kernel
theorem dX7_dropRow_21 : decode cX7_dropRow 21 = .ok (.iconst 1, 1) := by decide +kernel
theorem dX7_dropRow_22 : decode cX7_dropRow 22 = .ok (.iadd, 1) := by decide +kernel
theorem dX7_dropRow_23 : decode cX7_dropRow 23 = .ok (.iload_n 3, 1) := by decide +kernel
theorem dX7_dropRow_24 : decode cX7_dropRow 24 = .ok (.invokevirtual 15, 3) := by decide +kernel
theorem dX7_dropRow_27 : decode cX7_dropRow 27 = .ok (.invokevirtual 19, 3) := by decide +kernel
theorem dX7_dropRow_30 : decode cX7_dropRow 30 = .ok (.iinc 3 1, 3) := by decide +kernel
theorem dX7_dropRow_33 : decode cX7_dropRow 33 = .ok (.goto (-23), 3) := by decide +kernel
theorem dX7_dropRow_36 : decode cX7_dropRow 36 = .ok (.iinc 2 1, 3) := by decide +kernel
theorem dX7_dropRow_39 : decode cX7_dropRow 39 = .ok (.goto (-37), 3) := by decide +kernel
theorem dX7_dropRow_42 : decode cX7_dropRow 42 = .ok (.return_, 1) := by decide +kernel
theorem dX7_copyFrom_0 : decode cX7_copyFrom 0 = .ok (.iconst 0, 1) := by decide +kernel
theorem dX7_copyFrom_1 : decode cX7_copyFrom 1 = .ok (.istore_n 2, 1) := by decide +kernel
theorem dX7_copyFrom_2 : decode cX7_copyFrom 2 = .ok (.iload_n 2, 1) := by decide +kernel
theorem dX7_copyFrom_3 : decode cX7_copyFrom 3 = .ok (.aload_n 0, 1) := by decide +kernel
theorem dX7_copyFrom_4 : decode cX7_copyFrom 4 = .ok (.getfield 9, 3) := by decide +kernel
theorem dX7_copyFrom_7 : decode cX7_copyFrom 7 = .ok (.arraylength, 1) := by decide +kernel
theorem dX7_copyFrom_8 : decode cX7_copyFrom 8 = .ok (.if_icmp .ge 30, 3) := by decide +kernel
theorem dX7_copyFrom_11 : decode cX7_copyFrom 11 = .ok (.iload_n 2, 1) := by decide +kernel
theorem dX7_copyFrom_12 : decode cX7_copyFrom 12 = .ok (.aload_n 1, 1) := by decide +kernel
theorem dX7_copyFrom_13 : decode cX7_copyFrom 13 = .ok (.getfield 9, 3) := by decide +kernel
theorem dX7_copyFrom_16 : decode cX7_copyFrom 16 = .ok (.arraylength, 1) := by decide +kernel
theorem dX7_copyFrom_17 : decode cX7_copyFrom 17 = .ok (.if_icmp .ge 21, 3) := by decide +kernel
theorem dX7_copyFrom_20 : decode cX7_copyFrom 20 = .ok (.aload_n 0, 1) := by decide +kernel
theorem dX7_copyFrom_21 : decode cX7_copyFrom 21 = .ok (.getfield 9, 3) := by decide +kernel
theorem dX7_copyFrom_24 : decode cX7_copyFrom 24 = .ok (.iload_n 2, 1) := by decide +kernel
theorem dX7_copyFrom_25 : decode cX7_copyFrom 25 = .ok (.aload_n 1, 1) := by decide +kernel
theorem dX7_copyFrom_26 : decode cX7_copyFrom 26 = .ok (.getfield 9, 3) := by decide +kernel
theorem dX7_copyFrom_29 : decode cX7_copyFrom 29 = .ok (.iload_n 2, 1) := by decide +kernel
theorem dX7_copyFrom_30 : decode cX7_copyFrom 30 = .ok (.iaload, 1) := by decide +kernel
theorem dX7_copyFrom_31 : decode cX7_copyFrom 31 = .ok (.iastore, 1) := by decide +kernel
theorem dX7_copyFrom_32 : decode cX7_copyFrom 32 = .ok (.iinc 2 1, 3) := by decide +kernel
theorem dX7_copyFrom_35 : decode cX7_copyFrom 35 = .ok (.goto (-33), 3) := by decide +kernel
theorem dX7_copyFrom_38 : decode cX7_copyFrom 38 = .ok (.return_, 1) := by decide +kernel
theorem dX8_init_0 : decode cX8_init 0 = .ok (.aload_n 0, 1) := by decide +kernel
theorem dX8_init_1 : decode cX8_init 1 = .ok (.invokespecial 3, 3) := by decide +kernel
theorem dX8_init_4 : decode cX8_init 4 = .ok (.aload_n 0, 1) := by decide +kernel
theorem dX8_init_5 : decode cX8_init 5 = .ok (.bipush 60, 2) := by decide +kernel
theorem dX8_init_7 : decode cX8_init 7 = .ok (.newarray .int, 2) := by decide +kernel
theorem dX8_init_9 : decode cX8_init 9 = .ok (.putfield 9, 3) := by decide +kernel
theorem dX8_init_12 : decode cX8_init 12 = .ok (.aload_n 0, 1) := by decide +kernel
theorem dX8_init_13 : decode cX8_init 13 = .ok (.iconst 0, 1) := by decide +kernel
theorem dX8_init_14 : decode cX8_init 14 = .ok (.putfield 15, 3) := by decide +kernel
theorem dX8_init_17 : decode cX8_init 17 = .ok (.return_, 1) := by decide +kernel
theorem dX8_add_0 : decode cX8_add 0 = .ok (.aload_n 0, 1) := by decide +kernel
theorem dX8_add_1 : decode cX8_add 1 = .ok (.getfield 15, 3) := by decide +kernel
theorem dX8_add_4 : decode cX8_add 4 = .ok (.ifCond .lt 35, 3) := by decide +kernel
theorem dX8_add_7 : decode cX8_add 7 = .ok (.aload_n 0, 1) := by decide +kernel
theorem dX8_add_8 : decode cX8_add 8 = .ok (.getfield 15, 3) := by decide +kernel
theorem dX8_add_11 : decode cX8_add 11 = .ok (.aload_n 0, 1) := by decide +kernel
theorem dX8_add_12 : decode cX8_add 12 = .ok (.getfield 9, 3) := by decide +kernel
theorem dX8_add_15 : decode cX8_add 15 = .ok (.arraylength, 1) := by decide +kernel
theorem dX8_add_16 : decode cX8_add 16 = .ok (.if_icmp .ge 23, 3) := by decide +kernel
theorem dX8_add_19 : decode cX8_add 19 = .ok (.aload_n 0, 1) := by decide +kernel
theorem dX8_add_20 : decode cX8_add 20 = .ok (.getfield 9, 3) := by decide +kernel
theorem dX8_add_23 : decode cX8_add 23 = .ok (.aload_n 0, 1) := by decide +kernel
theorem dX8_add_24 : decode cX8_add 24 = .ok (.getfield 15, 3) := by decide +kernel
theorem dX8_add_27 : decode cX8_add 27 = .ok (.iload_n 1, 1) := by decide +kernel
theorem dX8_add_28 : decode cX8_add 28 = .ok (.iastore, 1) := by decide +kernel
theorem dX8_add_29 : decode cX8_add 29 = .ok (.aload_n 0, 1) := by decide +kernel
theorem dX8_add_30 : decode cX8_add 30 = .ok (.dup, 1) := by decide +kernel
theorem dX8_add_31 : decode cX8_add 31 = .ok (.getfield 15, 3) := by decide +kernel
theorem dX8_add_34 : decode cX8_add 34 = .ok (.iconst 1, 1) := by decide +kernel
theorem dX8_add_35 : decode cX8_add 35 = .ok (.iadd, 1) := by decide +kernel
theorem dX8_add_36 : decode cX8_add 36 = .ok (.putfield 15, 3) := by decide +kernel
theorem dX8_add_39 : decode cX8_add 39 = .ok (.return_, 1) := by decide +kernel
theorem dX8_clear_0 : decode cX8_clear 0 = .ok (.aload_n 0, 1) := by decide +kernel
theorem dX8_clear_1 : decode cX8_clear 1 = .ok (.iconst 0, 1) := by decide +kernel
theorem dX8_clear_2 : decode cX8_clear 2 = .ok (.putfield 15, 3) := by decide +kernel
theorem dX8_clear_5 : decode cX8_clear 5 = .ok (.return_, 1) := by decide +kernel
theorem dX8_codeAt_0 : decode cX8_codeAt 0 = .ok (.iload_n 1, 1) := by decide +kernel
theorem dX8_codeAt_1 : decode cX8_codeAt 1 = .ok (.ifCond .lt 29, 3) := by decide +kernel
theorem dX8_codeAt_4 : decode cX8_codeAt 4 = .ok (.iload_n 1, 1) := by decide +kernel
theorem dX8_codeAt_5 : decode cX8_codeAt 5 = .ok (.aload_n 0, 1) := by decide +kernel
theorem dX8_codeAt_6 : decode cX8_codeAt 6 = .ok (.getfield 15, 3) := by decide +kernel
theorem dX8_codeAt_9 : decode cX8_codeAt 9 = .ok (.if_icmp .ge 21, 3) := by decide +kernel
theorem dX8_codeAt_12 : decode cX8_codeAt 12 = .ok (.iload_n 1, 1) := by decide +kernel
theorem dX8_codeAt_13 : decode cX8_codeAt 13 = .ok (.aload_n 0, 1) := by decide +kernel
theorem dX8_codeAt_14 : decode cX8_codeAt 14 = .ok (.getfield 9, 3) := by decide +kernel
theorem dX8_codeAt_17 : decode cX8_codeAt 17 = .ok (.arraylength, 1) := by decide +kernel
theorem dX8_codeAt_18 : decode cX8_codeAt 18 = .ok (.if_icmp .ge 12, 3) := by decide +kernel
theorem dX8_codeAt_21 : decode cX8_codeAt 21 = .ok (.aload_n 0, 1) := by decide +kernel
theorem dX8_codeAt_22 : decode cX8_codeAt 22 = .ok (.getfield 9, 3) := by decide +kernel
theorem dX8_codeAt_25 : decode cX8_codeAt 25 = .ok (.iload_n 1, 1) := by decide +kernel
theorem dX8_codeAt_26 : decode cX8_codeAt 26 = .ok (.iaload, 1) := by decide +kernel
theorem dX8_codeAt_27 : decode cX8_codeAt 27 = .ok (.goto 4, 3) := by decide +kernel
theorem dX8_codeAt_30 : decode cX8_codeAt 30 = .ok (.iconst 0, 1) := by decide +kernel
theorem dX8_codeAt_31 : decode cX8_codeAt 31 = .ok (.ireturn, 1) := by decide +kernel
theorem dX8_addPartsTo_0 : decode cX8_addPartsTo 0 = .ok (.aload_n 1, 1) := by decide +kernel
theorem dX8_addPartsTo_1 : decode cX8_addPartsTo 1 = .ok (.invokevirtual 19, 3) := by decide +kernel
theorem dX8_addPartsTo_4 : decode cX8_addPartsTo 4 = .ok (.istore_n 2, 1) := by decide +kernel
theorem dX8_addPartsTo_5 : decode cX8_addPartsTo 5 = .ok (.iconst 0, 1) := by decide +kernel
theorem dX8_addPartsTo_6 : decode cX8_addPartsTo 6 = .ok (.istore_n 3, 1) := by decide +kernel
theorem dX8_addPartsTo_7 : decode cX8_addPartsTo 7 = .ok (.iconst 0, 1) := by decide +kernel
theorem dX8_addPartsTo_8 : decode cX8_addPartsTo 8 = .ok (.istore 4, 2) := by decide +kernel
theorem dX8_addPartsTo_10 : decode cX8_addPartsTo 10 = .ok (.iload 4, 2) := by decide +kernel
theorem dX8_addPartsTo_12 : decode cX8_addPartsTo 12 = .ok (.aload_n 0, 1) := by decide +kernel
theorem dX8_addPartsTo_13 : decode cX8_addPartsTo 13 = .ok (.getfield 15, 3) := by decide +kernel
theorem dX8_addPartsTo_16 : decode cX8_addPartsTo 16 = .ok (.if_icmp .ge 48, 3) := by decide +kernel
theorem dX8_addPartsTo_19 : decode cX8_addPartsTo 19 = .ok (.aload_n 0, 1) := by decide +kernel
theorem dX8_addPartsTo_20 : decode cX8_addPartsTo 20 = .ok (.iload 4, 2) := by decide +kernel
theorem dX8_addPartsTo_22 : decode cX8_addPartsTo 22 = .ok (.invokevirtual 25, 3) := by decide +kernel
theorem dX8_addPartsTo_25 : decode cX8_addPartsTo 25 = .ok (.istore 5, 2) := by decide +kernel
theorem dX8_addPartsTo_27 : decode cX8_addPartsTo 27 = .ok (.iload 5, 2) := by decide +kernel
theorem dX8_addPartsTo_29 : decode cX8_addPartsTo 29 = .ok (.bipush 59, 2) := by decide +kernel
theorem dX8_addPartsTo_31 : decode cX8_addPartsTo 31 = .ok (.if_icmp .ne 13, 3) := by decide +kernel
theorem dX8_addPartsTo_34 : decode cX8_addPartsTo 34 = .ok (.aload_n 1, 1) := by decide +kernel
theorem dX8_addPartsTo_35 : decode cX8_addPartsTo 35 = .ok (.invokevirtual 19, 3) := by decide +kernel
theorem dX8_addPartsTo_38 : decode cX8_addPartsTo 38 = .ok (.istore_n 2, 1) := by decide +kernel
theorem dX8_addPartsTo_39 : decode cX8_addPartsTo 39 = .ok (.iconst 0, 1) := by decide +kernel
theorem dX8_addPartsTo_40 : decode cX8_addPartsTo 40 = .ok (.istore_n 3, 1) := by decide +kernel
theorem dX8_addPartsTo_41 : decode cX8_addPartsTo 41 = .ok (.goto 17, 3) := by decide +kernel
theorem dX8_addPartsTo_44 : decode cX8_addPartsTo 44 = .ok (.aload_n 1, 1) := by decide +kernel
theorem dX8_addPartsTo_45 : decode cX8_addPartsTo 45 = .ok (.iload_n 2, 1) := by decide +kernel
theorem dX8_addPartsTo_46 : decode cX8_addPartsTo 46 = .ok (.iload_n 3, 1) := by decide +kernel
theorem dX8_addPartsTo_47 : decode cX8_addPartsTo 47 = .ok (.iload 5, 2) := by decide +kernel
theorem dX8_addPartsTo_49 : decode cX8_addPartsTo 49 = .ok (.bipush 48, 2) := by decide +kernel
theorem dX8_addPartsTo_51 : decode cX8_addPartsTo 51 = .ok (.isub, 1) := by decide +kernel
theorem dX8_addPartsTo_52 : decode cX8_addPartsTo 52 = .ok (.invokevirtual 29, 3) := by decide +kernel
theorem dX8_addPartsTo_55 : decode cX8_addPartsTo 55 = .ok (.iinc 3 1, 3) := by decide +kernel
theorem dX8_addPartsTo_58 : decode cX8_addPartsTo 58 = .ok (.iinc 4 1, 3) := by decide +kernel
theorem dX8_addPartsTo_61 : decode cX8_addPartsTo 61 = .ok (.goto (-51), 3) := by decide +kernel
theorem dX8_addPartsTo_64 : decode cX8_addPartsTo 64 = .ok (.return_, 1) := by decide +kernel
theorem dX9_init_0 : decode cX9_init 0 = .ok (.aload_n 0, 1) := by decide +kernel
theorem dX9_init_1 : decode cX9_init 1 = .ok (.invokespecial 3, 3) := by decide +kernel
theorem dX9_init_4 : decode cX9_init 4 = .ok (.aload_n 0, 1) := by decide +kernel
theorem dX9_init_5 : decode cX9_init 5 = .ok (.new 9, 3) := by decide +kernel
theorem dX9_init_8 : decode cX9_init 8 = .ok (.dup, 1) := by decide +kernel
theorem dX9_init_9 : decode cX9_init 9 = .ok (.invokespecial 11, 3) := by decide +kernel
theorem dX9_init_12 : decode cX9_init 12 = .ok (.putfield 12, 3) := by decide +kernel
theorem dX9_init_15 : decode cX9_init 15 = .ok (.aload_n 0, 1) := by decide +kernel
theorem dX9_init_16 : decode cX9_init 16 = .ok (.new 16, 3) := by decide +kernel
theorem dX9_init_19 : decode cX9_init 19 = .ok (.dup, 1) := by decide +kernel
theorem dX9_init_20 : decode cX9_init 20 = .ok (.invokespecial 18, 3) := by decide +kernel
theorem dX9_init_23 : decode cX9_init 23 = .ok (.putfield 19, 3) := by decide +kernel
theorem dX9_init_26 : decode cX9_init 26 = .ok (.aload_n 0, 1) := by decide +kernel
theorem dX9_init_27 : decode cX9_init 27 = .ok (.new 23, 3) := by decide +kernel
theorem dX9_init_30 : decode cX9_init 30 = .ok (.dup, 1) := by decide +kernel
theorem dX9_init_31 : decode cX9_init 31 = .ok (.invokespecial 25, 3) := by decide +kernel
theorem dX9_init_34 : decode cX9_init 34 = .ok (.putfield 26, 3) := by decide +kernel
theorem dX9_init_37 : decode cX9_init 37 = .ok (.aload_n 0, 1) := by decide +kernel
theorem dX9_init_38 : decode cX9_init 38 = .ok (.new 30, 3) := by decide +kernel
theorem dX9_init_41 : decode cX9_init 41 = .ok (.dup, 1) := by decide +kernel
theorem dX9_init_42 : decode cX9_init 42 = .ok (.invokespecial 32, 3) := by decide +kernel
theorem dX9_init_45 : decode cX9_init 45 = .ok (.putfield 33, 3) := by decide +kernel
theorem dX9_init_48 : decode cX9_init 48 = .ok (.aload_n 0, 1) := by decide +kernel
theorem dX9_init_49 : decode cX9_init 49 = .ok (.new 37, 3) := by decide +kernel
theorem dX9_init_52 : decode cX9_init 52 = .ok (.dup, 1) := by decide +kernel
theorem dX9_init_53 : decode cX9_init 53 = .ok (.invokespecial 39, 3) := by decide +kernel
theorem dX9_init_56 : decode cX9_init 56 = .ok (.putfield 40, 3) := by decide +kernel
theorem dX9_init_59 : decode cX9_init 59 = .ok (.aload_n 0, 1) := by decide +kernel
theorem dX9_init_60 : decode cX9_init 60 = .ok (.new 44, 3) := by decide +kernel
theorem dX9_init_63 : decode cX9_init 63 = .ok (.dup, 1) := by decide +kernel
theorem dX9_init_64 : decode cX9_init 64 = .ok (.invokespecial 46, 3) := by decide +kernel
theorem dX9_init_67 : decode cX9_init 67 = .ok (.putfield 47, 3) := by decide +kernel
theorem dX9_init_70 : decode cX9_init 70 = .ok (.return_, 1) := by decide +kernel
theorem dX9_addPart_0 : decode cX9_addPart 0 = .ok (.iload_n 1, 1) := by decide +kernel
theorem dX9_addPart_1 : decode cX9_addPart 1 = .ok (.ifCond .lt 9, 3) := by decide +kernel
theorem dX9_addPart_4 : decode cX9_addPart 4 = .ok (.iload_n 1, 1) := by decide +kernel
theorem dX9_addPart_5 : decode cX9_addPart 5 = .ok (.bipush 6, 2) := by decide +kernel
theorem dX9_addPart_7 : decode cX9_addPart 7 = .ok (.if_icmp .lt 13, 3) := by decide +kernel
theorem dX9_addPart_10 : decode cX9_addPart 10 = .ok (.new 51, 3) := by decide +kernel
theorem dX9_addPart_13 : decode cX9_addPart 13 = .ok (.dup, 1) := by decide +kernel
theorem dX9_addPart_14 : decode cX9_addPart 14 = .ok (.ldc 53, 2) := by decide +kernel
theorem dX9_addPart_16 : decode cX9_addPart 16 = .ok (.invokespecial 55, 3) := by decide +kernel
theorem dX9_addPart_19 : decode cX9_addPart 19 = .ok (.athrow, 1) := by decide +kernel
theorem dX9_addPart_20 : decode cX9_addPart 20 = .ok (.aload_n 0, 1) := by decide +kernel
theorem dX9_addPart_21 : decode cX9_addPart 21 = .ok (.getfield 12, 3) := by decide +kernel
theorem dX9_addPart_24 : decode cX9_addPart 24 = .ok (.getfield 58, 3) := by decide +kernel
theorem dX9_addPart_27 : decode cX9_addPart 27 = .ok (.bipush 6, 2) := by decide +kernel
theorem dX9_addPart_29 : decode cX9_addPart 29 = .ok (.if_icmp .lt 13, 3) := by decide +kernel
theorem dX9_addPart_32 : decode cX9_addPart 32 = .ok (.new 62, 3) := by decide +kernel
theorem dX9_addPart_35 : decode cX9_addPart 35 = .ok (.dup, 1) := by decide +kernel
theorem dX9_addPart_36 : decode cX9_addPart 36 = .ok (.ldc 64, 2) := by decide +kernel
theorem dX9_addPart_38 : decode cX9_addPart 38 = .ok (.invokespecial 66, 3) := by decide +kernel
theorem dX9_addPart_41 : decode cX9_addPart 41 = .ok (.athrow, 1) := by decide +kernel
theorem dX9_addPart_42 : decode cX9_addPart 42 = .ok (.aload_n 0, 1) := by decide +kernel
theorem dX9_addPart_43 : decode cX9_addPart 43 = .ok (.getfield 19, 3) := by decide +kernel
theorem dX9_addPart_46 : decode cX9_addPart 46 = .ok (.aload_n 0, 1) := by decide +kernel
theorem dX9_addPart_47 : decode cX9_addPart 47 = .ok (.getfield 12, 3) := by decide +kernel
theorem dX9_addPart_50 : decode cX9_addPart 50 = .ok (.invokevirtual 67, 3) := by decide +kernel
theorem dX9_addPart_53 : decode cX9_addPart 53 = .ok (.aload_n 0, 1) := by decide +kernel
theorem dX9_addPart_54 : decode cX9_addPart 54 = .ok (.getfield 12, 3) := by decide +kernel
theorem dX9_addPart_57 : decode cX9_addPart 57 = .ok (.invokevirtual 71, 3) := by decide +kernel
theorem dX9_addPart_60 : decode cX9_addPart 60 = .ok (.istore_n 2, 1) := by decide +kernel
theorem dX9_addPart_61 : decode cX9_addPart 61 = .ok (.iconst 0, 1) := by decide +kernel
theorem dX9_addPart_62 : decode cX9_addPart 62 = .ok (.istore_n 3, 1) := by decide +kernel
theorem dX9_addPart_63 : decode cX9_addPart 63 = .ok (.iload_n 3, 1) := by decide +kernel
theorem dX9_addPart_64 : decode cX9_addPart 64 = .ok (.iload_n 1, 1) := by decide +kernel
theorem dX9_addPart_65 : decode cX9_addPart 65 = .ok (.if_icmp .gt 19, 3) := by decide +kernel
theorem dX9_addPart_68 : decode cX9_addPart 68 = .ok (.aload_n 0, 1) := by decide +kernel
theorem dX9_addPart_69 : decode cX9_addPart 69 = .ok (.getfield 12, 3) := by decide +kernel
theorem dX9_addPart_72 : decode cX9_addPart 72 = .ok (.iload_n 2, 1) := by decide +kernel
theorem dX9_addPart_73 : decode cX9_addPart 73 = .ok (.iload_n 3, 1) := by decide +kernel
theorem dX9_addPart_74 : decode cX9_addPart 74 = .ok (.iconst 1, 1) := by decide +kernel
theorem dX9_addPart_75 : decode cX9_addPart 75 = .ok (.invokevirtual 75, 3) := by decide +kernel
theorem dX9_addPart_78 : decode cX9_addPart 78 = .ok (.iinc 3 1, 3) := by decide +kernel
theorem dX9_addPart_81 : decode cX9_addPart 81 = .ok (.goto (-18), 3) := by decide +kernel
theorem dX9_addPart_84 : decode cX9_addPart 84 = .ok (.iload_n 2, 1) := by decide +kernel
theorem dX9_addPart_85 : decode cX9_addPart 85 = .ok (.ireturn, 1) := by decide +kernel
theorem dX9_removePart_0 : decode cX9_removePart 0 = .ok (.aload_n 0, 1) := by decide +kernel
theorem dX9_removePart_1 : decode cX9_removePart 1 = .ok (.iload_n 1, 1) := by decide +kernel
theorem dX9_removePart_2 : decode cX9_removePart 2 = .ok (.invokevirtual 79, 3) := by decide +kernel
theorem dX9_removePart_5 : decode cX9_removePart 5 = .ok (.aload_n 0, 1) := by decide +kernel
theorem dX9_removePart_6 : decode cX9_removePart 6 = .ok (.getfield 19, 3) := by decide +kernel
theorem dX9_removePart_9 : decode cX9_removePart 9 = .ok (.aload_n 0, 1) := by decide +kernel
theorem dX9_removePart_10 : decode cX9_removePart 10 = .ok (.getfield 12, 3) := by decide +kernel
theorem dX9_removePart_13 : decode cX9_removePart 13 = .ok (.invokevirtual 67, 3) := by decide +kernel
theorem dX9_removePart_16 : decode cX9_removePart 16 = .ok (.aload_n 0, 1) := by decide +kernel
theorem dX9_removePart_17 : decode cX9_removePart 17 = .ok (.getfield 12, 3) := by decide +kernel
theorem dX9_removePart_20 : decode cX9_removePart 20 = .ok (.iload_n 1, 1) := by decide +kernel
theorem dX9_removePart_21 : decode cX9_removePart 21 = .ok (.invokevirtual 83, 3) := by decide +kernel
theorem dX9_removePart_24 : decode cX9_removePart 24 = .ok (.aload_n 0, 1) := by decide +kernel
theorem dX9_removePart_25 : decode cX9_removePart 25 = .ok (.getfield 12, 3) := by decide +kernel
theorem dX9_removePart_28 : decode cX9_removePart 28 = .ok (.getfield 58, 3) := by decide +kernel
theorem dX9_removePart_31 : decode cX9_removePart 31 = .ok (.ireturn, 1) := by decide +kernel
theorem dX9_weigh_0 : decode cX9_weigh 0 = .ok (.aload_n 0, 1) := by decide +kernel
theorem dX9_weigh_1 : decode cX9_weigh 1 = .ok (.iload_n 1, 1) := by decide +kernel
theorem dX9_weigh_2 : decode cX9_weigh 2 = .ok (.invokevirtual 79, 3) := by decide +kernel
theorem dX9_weigh_5 : decode cX9_weigh 5 = .ok (.iload_n 2, 1) := by decide +kernel
theorem dX9_weigh_6 : decode cX9_weigh 6 = .ok (.invokestatic 86, 3) := by decide +kernel
theorem dX9_weigh_9 : decode cX9_weigh 9 = .ok (.iload_n 3, 1) := by decide +kernel
theorem dX9_weigh_10 : decode cX9_weigh 10 = .ok (.iconst 0, 1) := by decide +kernel
theorem dX9_weigh_11 : decode cX9_weigh 11 = .ok (.bipush 9, 2) := by decide +kernel
theorem dX9_weigh_13 : decode cX9_weigh 13 = .ok (.invokestatic 89, 3) := by decide +kernel
theorem dX9_weigh_16 : decode cX9_weigh 16 = .ok (.aload_n 0, 1) := by decide +kernel
theorem dX9_weigh_17 : decode cX9_weigh 17 = .ok (.getfield 12, 3) := by decide +kernel
theorem dX9_weigh_20 : decode cX9_weigh 20 = .ok (.getfield 92, 3) := by decide +kernel
theorem dX9_weigh_23 : decode cX9_weigh 23 = .ok (.iload_n 1, 1) := by decide +kernel
theorem dX9_weigh_24 : decode cX9_weigh 24 = .ok (.iload_n 2, 1) := by decide +kernel
theorem dX9_weigh_25 : decode cX9_weigh 25 = .ok (.invokevirtual 96, 3) := by decide +kernel
theorem dX9_weigh_28 : decode cX9_weigh 28 = .ok (.istore 4, 2) := by decide +kernel
theorem dX9_weigh_30 : decode cX9_weigh 30 = .ok (.iload_n 3, 1) := by decide +kernel
theorem dX9_weigh_31 : decode cX9_weigh 31 = .ok (.ifCond .ne 29, 3) := by decide +kernel
theorem dX9_weigh_34 : decode cX9_weigh 34 = .ok (.aload_n 0, 1) := by decide +kernel
theorem dX9_weigh_35 : decode cX9_weigh 35 = .ok (.getfield 12, 3) := by decide +kernel
theorem dX9_weigh_38 : decode cX9_weigh 38 = .ok (.getfield 92, 3) := by decide +kernel
theorem dX9_weigh_41 : decode cX9_weigh 41 = .ok (.iload_n 1, 1) := by decide +kernel
theorem dX9_weigh_42 : decode cX9_weigh 42 = .ok (.invokevirtual 102, 3) := by decide +kernel
theorem dX9_weigh_45 : decode cX9_weigh 45 = .ok (.iload 4, 2) := by decide +kernel
theorem dX9_weigh_47 : decode cX9_weigh 47 = .ok (.if_icmp .ne 13, 3) := by decide +kernel
theorem dX9_weigh_50 : decode cX9_weigh 50 = .ok (.new 62, 3) := by decide +kernel
theorem dX9_weigh_53 : decode cX9_weigh 53 = .ok (.dup, 1) := by decide +kernel
theorem dX9_weigh_54 : decode cX9_weigh 54 = .ok (.ldc 106, 2) := by decide +kernel
theorem dX9_weigh_56 : decode cX9_weigh 56 = .ok (.invokespecial 66, 3) := by decide +kernel
theorem dX9_weigh_59 : decode cX9_weigh 59 = .ok (.athrow, 1) := by decide +kernel
theorem dX9_weigh_60 : decode cX9_weigh 60 = .ok (.aload_n 0, 1) := by decide +kernel
theorem dX9_weigh_61 : decode cX9_weigh 61 = .ok (.getfield 19, 3) := by decide +kernel
theorem dX9_weigh_64 : decode cX9_weigh 64 = .ok (.aload_n 0, 1) := by decide +kernel
theorem dX9_weigh_65 : decode cX9_weigh 65 = .ok (.getfield 12, 3) := by decide +kernel
theorem dX9_weigh_68 : decode cX9_weigh 68 = .ok (.invokevirtual 67, 3) := by decide +kernel
theorem dX9_weigh_71 : decode cX9_weigh 71 = .ok (.aload_n 0, 1) := by decide +kernel
theorem dX9_weigh_72 : decode cX9_weigh 72 = .ok (.getfield 12, 3) := by decide +kernel
theorem dX9_weigh_75 : decode cX9_weigh 75 = .ok (.iload_n 1, 1) := by decide +kernel
theorem dX9_weigh_76 : decode cX9_weigh 76 = .ok (.iload_n 2, 1) := by decide +kernel
theorem dX9_weigh_77 : decode cX9_weigh 77 = .ok (.iload_n 3, 1) := by decide +kernel
theorem dX9_weigh_78 : decode cX9_weigh 78 = .ok (.invokevirtual 108, 3) := by decide +kernel
theorem dX9_weigh_81 : decode cX9_weigh 81 = .ok (.iload 4, 2) := by decide +kernel
theorem dX9_weigh_83 : decode cX9_weigh 83 = .ok (.ireturn, 1) := by decide +kernel
theorem dX9_tilt_0 : decode cX9_tilt 0 = .ok (.aload_n 0, 1) := by decide +kernel
theorem dX9_tilt_1 : decode cX9_tilt 1 = .ok (.iload_n 1, 1) := by decide +kernel
theorem dX9_tilt_2 : decode cX9_tilt 2 = .ok (.invokevirtual 79, 3) := by decide +kernel
theorem dX9_tilt_5 : decode cX9_tilt 5 = .ok (.iload_n 2, 1) := by decide +kernel
theorem dX9_tilt_6 : decode cX9_tilt 6 = .ok (.invokestatic 86, 3) := by decide +kernel
theorem dX9_tilt_9 : decode cX9_tilt 9 = .ok (.iload_n 3, 1) := by decide +kernel
theorem dX9_tilt_10 : decode cX9_tilt 10 = .ok (.iconst 1, 1) := by decide +kernel
theorem dX9_tilt_11 : decode cX9_tilt 11 = .ok (.bipush 99, 2) := by decide +kernel
theorem dX9_tilt_13 : decode cX9_tilt 13 = .ok (.invokestatic 89, 3) := by decide +kernel
theorem dX9_tilt_16 : decode cX9_tilt 16 = .ok (.aload_n 0, 1) := by decide +kernel
theorem dX9_tilt_17 : decode cX9_tilt 17 = .ok (.getfield 12, 3) := by decide +kernel
theorem dX9_tilt_20 : decode cX9_tilt 20 = .ok (.getfield 92, 3) := by decide +kernel
theorem dX9_tilt_23 : decode cX9_tilt 23 = .ok (.iload_n 1, 1) := by decide +kernel
theorem dX9_tilt_24 : decode cX9_tilt 24 = .ok (.iload_n 2, 1) := by decide +kernel
theorem dX9_tilt_25 : decode cX9_tilt 25 = .ok (.invokevirtual 96, 3) := by decide +kernel
theorem dX9_tilt_28 : decode cX9_tilt 28 = .ok (.ifCond .ne 13, 3) := by decide +kernel
theorem dX9_tilt_31 : decode cX9_tilt 31 = .ok (.new 62, 3) := by decide +kernel
theorem dX9_tilt_34 : decode cX9_tilt 34 = .ok (.dup, 1) := by decide +kernel
theorem dX9_tilt_35 : decode cX9_tilt 35 = .ok (.ldc 111, 2) := by decide +kernel
theorem dX9_tilt_37 : decode cX9_tilt 37 = .ok (.invokespecial 66, 3) := by decide +kernel
theorem dX9_tilt_40 : decode cX9_tilt 40 = .ok (.athrow, 1) := by decide +kernel
theorem dX9_tilt_41 : decode cX9_tilt 41 = .ok (.aload_n 0, 1) := by decide +kernel
theorem dX9_tilt_42 : decode cX9_tilt 42 = .ok (.getfield 19, 3) := by decide +kernel
theorem dX9_tilt_45 : decode cX9_tilt 45 = .ok (.aload_n 0, 1) := by decide +kernel
theorem dX9_tilt_46 : decode cX9_tilt 46 = .ok (.getfield 12, 3) := by decide +kernel
theorem dX9_tilt_49 : decode cX9_tilt 49 = .ok (.invokevirtual 67, 3) := by decide +kernel
theorem dX9_tilt_52 : decode cX9_tilt 52 = .ok (.aload_n 0, 1) := by decide +kernel
theorem dX9_tilt_53 : decode cX9_tilt 53 = .ok (.getfield 12, 3) := by decide +kernel
theorem dX9_tilt_56 : decode cX9_tilt 56 = .ok (.getfield 113, 3) := by decide +kernel
theorem dX9_tilt_59 : decode cX9_tilt 59 = .ok (.iload_n 1, 1) := by decide +kernel
theorem dX9_tilt_60 : decode cX9_tilt 60 = .ok (.iload_n 2, 1) := by decide +kernel
theorem dX9_tilt_61 : decode cX9_tilt 61 = .ok (.invokevirtual 96, 3) := by decide +kernel
theorem dX9_tilt_64 : decode cX9_tilt 64 = .ok (.istore 4, 2) := by decide +kernel
theorem dX9_tilt_66 : decode cX9_tilt 66 = .ok (.aload_n 0, 1) := by decide +kernel
theorem dX9_tilt_67 : decode cX9_tilt 67 = .ok (.getfield 12, 3) := by decide +kernel
theorem dX9_tilt_70 : decode cX9_tilt 70 = .ok (.iload_n 1, 1) := by decide +kernel
theorem dX9_tilt_71 : decode cX9_tilt 71 = .ok (.iload_n 2, 1) := by decide +kernel
theorem dX9_tilt_72 : decode cX9_tilt 72 = .ok (.iload_n 3, 1) := by decide +kernel
theorem dX9_tilt_73 : decode cX9_tilt 73 = .ok (.invokevirtual 116, 3) := by decide +kernel
theorem dX9_tilt_76 : decode cX9_tilt 76 = .ok (.iload 4, 2) := by decide +kernel
theorem dX9_tilt_78 : decode cX9_tilt 78 = .ok (.ireturn, 1) := by decide +kernel
theorem dX9_tiltAll_0 : decode cX9_tiltAll 0 = .ok (.iload_n 1, 1) := by decide +kernel
theorem dX9_tiltAll_1 : decode cX9_tiltAll 1 = .ok (.iconst 0, 1) := by decide +kernel
theorem dX9_tiltAll_2 : decode cX9_tiltAll 2 = .ok (.bipush 9, 2) := by decide +kernel
theorem dX9_tiltAll_4 : decode cX9_tiltAll 4 = .ok (.invokestatic 89, 3) := by decide +kernel
theorem dX9_tiltAll_7 : decode cX9_tiltAll 7 = .ok (.aload_n 0, 1) := by decide +kernel
theorem dX9_tiltAll_8 : decode cX9_tiltAll 8 = .ok (.getfield 19, 3) := by decide +kernel
theorem dX9_tiltAll_11 : decode cX9_tiltAll 11 = .ok (.aload_n 0, 1) := by decide +kernel
theorem dX9_tiltAll_12 : decode cX9_tiltAll 12 = .ok (.getfield 12, 3) := by decide +kernel
theorem dX9_tiltAll_15 : decode cX9_tiltAll 15 = .ok (.invokevirtual 67, 3) := by decide +kernel
theorem dX9_tiltAll_18 : decode cX9_tiltAll 18 = .ok (.aload_n 0, 1) := by decide +kernel
theorem dX9_tiltAll_19 : decode cX9_tiltAll 19 = .ok (.getfield 12, 3) := by decide +kernel
theorem dX9_tiltAll_22 : decode cX9_tiltAll 22 = .ok (.iload_n 1, 1) := by decide +kernel
theorem dX9_tiltAll_23 : decode cX9_tiltAll 23 = .ok (.invokevirtual 119, 3) := by decide +kernel
theorem dX9_tiltAll_26 : decode cX9_tiltAll 26 = .ok (.aload_n 0, 1) := by decide +kernel
theorem dX9_tiltAll_27 : decode cX9_tiltAll 27 = .ok (.getfield 12, 3) := by decide +kernel
theorem dX9_tiltAll_30 : decode cX9_tiltAll 30 = .ok (.invokevirtual 122, 3) := by decide +kernel
theorem dX9_tiltAll_33 : decode cX9_tiltAll 33 = .ok (.ireturn, 1) := by decide +kernel
theorem dX9_limit_0 : decode cX9_limit 0 = .ok (.iload_n 1, 1) := by decide +kernel
theorem dX9_limit_1 : decode cX9_limit 1 = .ok (.iconst 0, 1) := by decide +kernel
theorem dX9_limit_2 : decode cX9_limit 2 = .ok (.bipush 99, 2) := by decide +kernel
theorem dX9_limit_4 : decode cX9_limit 4 = .ok (.invokestatic 89, 3) := by decide +kernel
theorem dX9_limit_7 : decode cX9_limit 7 = .ok (.aload_n 0, 1) := by decide +kernel
theorem dX9_limit_8 : decode cX9_limit 8 = .ok (.getfield 19, 3) := by decide +kernel
theorem dX9_limit_11 : decode cX9_limit 11 = .ok (.aload_n 0, 1) := by decide +kernel
theorem dX9_limit_12 : decode cX9_limit 12 = .ok (.getfield 12, 3) := by decide +kernel
theorem dX9_limit_15 : decode cX9_limit 15 = .ok (.invokevirtual 67, 3) := by decide +kernel
theorem dX9_limit_18 : decode cX9_limit 18 = .ok (.aload_n 0, 1) := by decide +kernel
theorem dX9_limit_19 : decode cX9_limit 19 = .ok (.getfield 12, 3) := by decide +kernel
theorem dX9_limit_22 : decode cX9_limit 22 = .ok (.getfield 125, 3) := by decide +kernel
theorem dX9_limit_25 : decode cX9_limit 25 = .ok (.istore_n 2, 1) := by decide +kernel
theorem dX9_limit_26 : decode cX9_limit 26 = .ok (.aload_n 0, 1) := by decide +kernel
theorem dX9_limit_27 : decode cX9_limit 27 = .ok (.getfield 12, 3) := by decide +kernel
theorem dX9_limit_30 : decode cX9_limit 30 = .ok (.iload_n 1, 1) := by decide +kernel
theorem dX9_limit_31 : decode cX9_limit 31 = .ok (.invokevirtual 128, 3) := by decide +kernel
theorem dX9_limit_34 : decode cX9_limit 34 = .ok (.iload_n 2, 1) := by decide +kernel
theorem dX9_limit_35 : decode cX9_limit 35 = .ok (.ireturn, 1) := by decide +kernel
theorem dX9_seed_0 : decode cX9_seed 0 = .ok (.iload_n 1, 1) := by decide +kernel
theorem dX9_seed_1 : decode cX9_seed 1 = .ok (.ifCond .ge 13, 3) := by decide +kernel
theorem dX9_seed_4 : decode cX9_seed 4 = .ok (.new 51, 3) := by decide +kernel
theorem dX9_seed_7 : decode cX9_seed 7 = .ok (.dup, 1) := by decide +kernel
theorem dX9_seed_8 : decode cX9_seed 8 = .ok (.ldc 131, 2) := by decide +kernel
theorem dX9_seed_10 : decode cX9_seed 10 = .ok (.invokespecial 55, 3) := by decide +kernel
theorem dX9_seed_13 : decode cX9_seed 13 = .ok (.athrow, 1) := by decide +kernel
theorem dX9_seed_14 : decode cX9_seed 14 = .ok (.aload_n 0, 1) := by decide +kernel
theorem dX9_seed_15 : decode cX9_seed 15 = .ok (.getfield 19, 3) := by decide +kernel
theorem dX9_seed_18 : decode cX9_seed 18 = .ok (.aload_n 0, 1) := by decide +kernel
theorem dX9_seed_19 : decode cX9_seed 19 = .ok (.getfield 12, 3) := by decide +kernel
theorem dX9_seed_22 : decode cX9_seed 22 = .ok (.invokevirtual 67, 3) := by decide +kernel
theorem dX9_seed_25 : decode cX9_seed 25 = .ok (.aload_n 0, 1) := by decide +kernel
theorem dX9_seed_26 : decode cX9_seed 26 = .ok (.getfield 12, 3) := by decide +kernel
theorem dX9_seed_29 : decode cX9_seed 29 = .ok (.getfield 133, 3) := by decide +kernel
theorem dX9_seed_32 : decode cX9_seed 32 = .ok (.istore_n 2, 1) := by decide +kernel
theorem dX9_seed_33 : decode cX9_seed 33 = .ok (.aload_n 0, 1) := by decide +kernel
theorem dX9_seed_34 : decode cX9_seed 34 = .ok (.getfield 12, 3) := by decide +kernel
theorem dX9_seed_37 : decode cX9_seed 37 = .ok (.iload_n 1, 1) := by decide +kernel
theorem dX9_seed_38 : decode cX9_seed 38 = .ok (.putfield 133, 3) := by decide +kernel
theorem dX9_seed_41 : decode cX9_seed 41 = .ok (.iload_n 2, 1) := by decide +kernel
theorem dX9_seed_42 : decode cX9_seed 42 = .ok (.ireturn, 1) := by decide +kernel
theorem dX9_draw_0 : decode cX9_draw 0 = .ok (.iload_n 1, 1) := by decide +kernel
theorem dX9_draw_1 : decode cX9_draw 1 = .ok (.iconst 1, 1) := by decide +kernel
theorem dX9_draw_2 : decode cX9_draw 2 = .ok (.bipush 64, 2) := by decide +kernel
theorem dX9_draw_4 : decode cX9_draw 4 = .ok (.invokestatic 89, 3) := by decide +kernel
theorem dX9_draw_7 : decode cX9_draw 7 = .ok (.aload_n 0, 1) := by decide +kernel
theorem dX9_draw_8 : decode cX9_draw 8 = .ok (.getfield 12, 3) := by decide +kernel
theorem dX9_draw_11 : decode cX9_draw 11 = .ok (.getfield 136, 3) := by decide +kernel
theorem dX9_draw_14 : decode cX9_draw 14 = .ok (.getfield 140, 3) := by decide +kernel
theorem dX9_draw_17 : decode cX9_draw 17 = .ok (.iload_n 1, 1) := by decide +kernel
theorem dX9_draw_18 : decode cX9_draw 18 = .ok (.iadd, 1) := by decide +kernel
theorem dX9_draw_19 : decode cX9_draw 19 = .ok (.sipush 9999, 3) := by decide +kernel
theorem dX9_draw_22 : decode cX9_draw 22 = .ok (.if_icmp .le 13, 3) := by decide +kernel
theorem dX9_draw_25 : decode cX9_draw 25 = .ok (.new 62, 3) := by decide +kernel
theorem dX9_draw_28 : decode cX9_draw 28 = .ok (.dup, 1) := by decide +kernel
theorem dX9_draw_29 : decode cX9_draw 29 = .ok (.ldc 145, 2) := by decide +kernel
theorem dX9_draw_31 : decode cX9_draw 31 = .ok (.invokespecial 66, 3) := by decide +kernel
theorem dX9_draw_34 : decode cX9_draw 34 = .ok (.athrow, 1) := by decide +kernel
theorem dX9_draw_35 : decode cX9_draw 35 = .ok (.aload_n 0, 1) := by decide +kernel
theorem dX9_draw_36 : decode cX9_draw 36 = .ok (.getfield 19, 3) := by decide +kernel
theorem dX9_draw_39 : decode cX9_draw 39 = .ok (.aload_n 0, 1) := by decide +kernel
theorem dX9_draw_40 : decode cX9_draw 40 = .ok (.getfield 12, 3) := by decide +kernel
theorem dX9_draw_43 : decode cX9_draw 43 = .ok (.invokevirtual 67, 3) := by decide +kernel
theorem dX9_draw_46 : decode cX9_draw 46 = .ok (.aload_n 0, 1) := by decide +kernel
theorem dX9_draw_47 : decode cX9_draw 47 = .ok (.getfield 12, 3) := by decide +kernel
theorem dX9_draw_50 : decode cX9_draw 50 = .ok (.getfield 136, 3) := by decide +kernel
theorem dX9_draw_53 : decode cX9_draw 53 = .ok (.getfield 147, 3) := by decide +kernel
theorem dX9_draw_56 : decode cX9_draw 56 = .ok (.istore_n 2, 1) := by decide +kernel
theorem dX9_draw_57 : decode cX9_draw 57 = .ok (.iconst 0, 1) := by decide +kernel
theorem dX9_draw_58 : decode cX9_draw 58 = .ok (.istore_n 3, 1) := by decide +kernel
theorem dX9_draw_59 : decode cX9_draw 59 = .ok (.iload_n 3, 1) := by decide +kernel
theorem dX9_draw_60 : decode cX9_draw 60 = .ok (.iload_n 1, 1) := by decide +kernel
theorem dX9_draw_61 : decode cX9_draw 61 = .ok (.if_icmp .ge 16, 3) := by decide +kernel
theorem dX9_draw_64 : decode cX9_draw 64 = .ok (.aload_n 0, 1) := by decide +kernel
theorem dX9_draw_65 : decode cX9_draw 65 = .ok (.getfield 12, 3) := by decide +kernel
theorem dX9_draw_68 : decode cX9_draw 68 = .ok (.invokevirtual 150, 3) := by decide +kernel
theorem dX9_draw_71 : decode cX9_draw 71 = .ok (.iinc 3 1, 3) := by decide +kernel
theorem dX9_draw_74 : decode cX9_draw 74 = .ok (.goto (-15), 3) := by decide +kernel
theorem dX9_draw_77 : decode cX9_draw 77 = .ok (.aload_n 0, 1) := by decide +kernel
theorem dX9_draw_78 : decode cX9_draw 78 = .ok (.getfield 12, 3) := by decide +kernel
theorem dX9_draw_81 : decode cX9_draw 81 = .ok (.getfield 136, 3) := by decide +kernel
theorem dX9_draw_84 : decode cX9_draw 84 = .ok (.getfield 147, 3) := by decide +kernel
theorem dX9_draw_87 : decode cX9_draw 87 = .ok (.iload_n 2, 1) := by decide +kernel
theorem dX9_draw_88 : decode cX9_draw 88 = .ok (.isub, 1) := by decide +kernel
theorem dX9_draw_89 : decode cX9_draw 89 = .ok (.ireturn, 1) := by decide +kernel
theorem dX9_forget_0 : decode cX9_forget 0 = .ok (.aload_n 0, 1) := by decide +kernel
theorem dX9_forget_1 : decode cX9_forget 1 = .ok (.getfield 19, 3) := by decide +kernel
theorem dX9_forget_4 : decode cX9_forget 4 = .ok (.aload_n 0, 1) := by decide +kernel
theorem dX9_forget_5 : decode cX9_forget 5 = .ok (.getfield 12, 3) := by decide +kernel
theorem dX9_forget_8 : decode cX9_forget 8 = .ok (.invokevirtual 67, 3) := by decide +kernel
theorem dX9_forget_11 : decode cX9_forget 11 = .ok (.aload_n 0, 1) := by decide +kernel
theorem dX9_forget_12 : decode cX9_forget 12 = .ok (.getfield 12, 3) := by decide +kernel
theorem dX9_forget_15 : decode cX9_forget 15 = .ok (.getfield 136, 3) := by decide +kernel
theorem dX9_forget_18 : decode cX9_forget 18 = .ok (.getfield 140, 3) := by decide +kernel
theorem dX9_forget_21 : decode cX9_forget 21 = .ok (.istore_n 1, 1) := by decide +kernel
theorem dX9_forget_22 : decode cX9_forget 22 = .ok (.aload_n 0, 1) := by decide +kernel
theorem dX9_forget_23 : decode cX9_forget 23 = .ok (.getfield 12, 3) := by decide +kernel
theorem dX9_forget_26 : decode cX9_forget 26 = .ok (.getfield 136, 3) := by decide +kernel
theorem dX9_forget_29 : decode cX9_forget 29 = .ok (.invokevirtual 153, 3) := by decide +kernel
theorem dX9_forget_32 : decode cX9_forget 32 = .ok (.iload_n 1, 1) := by decide +kernel
theorem dX9_forget_33 : decode cX9_forget 33 = .ok (.ireturn, 1) := by decide +kernel
theorem dX9_append_0 : decode cX9_append 0 = .ok (.iload_n 1, 1) := by decide +kernel
theorem dX9_append_1 : decode cX9_append 1 = .ok (.bipush 33, 2) := by decide +kernel
theorem dX9_append_3 : decode cX9_append 3 = .ok (.bipush 126, 2) := by decide +kernel
theorem dX9_append_5 : decode cX9_append 5 = .ok (.invokestatic 89, 3) := by decide +kernel
theorem dX9_append_8 : decode cX9_append 8 = .ok (.aload_n 0, 1) := by decide +kernel
theorem dX9_append_9 : decode cX9_append 9 = .ok (.getfield 26, 3) := by decide +kernel
theorem dX9_append_12 : decode cX9_append 12 = .ok (.getfield 156, 3) := by decide +kernel
theorem dX9_append_15 : decode cX9_append 15 = .ok (.bipush 60, 2) := by decide +kernel
theorem dX9_append_17 : decode cX9_append 17 = .ok (.if_icmp .lt 13, 3) := by decide +kernel
theorem dX9_append_20 : decode cX9_append 20 = .ok (.new 62, 3) := by decide +kernel
theorem dX9_append_23 : decode cX9_append 23 = .ok (.dup, 1) := by decide +kernel
theorem dX9_append_24 : decode cX9_append 24 = .ok (.ldc 159, 2) := by decide +kernel
theorem dX9_append_26 : decode cX9_append 26 = .ok (.invokespecial 66, 3) := by decide +kernel
theorem dX9_append_29 : decode cX9_append 29 = .ok (.athrow, 1) := by decide +kernel
theorem dX9_append_30 : decode cX9_append 30 = .ok (.aload_n 0, 1) := by decide +kernel
theorem dX9_append_31 : decode cX9_append 31 = .ok (.getfield 26, 3) := by decide +kernel
theorem dX9_append_34 : decode cX9_append 34 = .ok (.iload_n 1, 1) := by decide +kernel
theorem dX9_append_35 : decode cX9_append 35 = .ok (.invokevirtual 161, 3) := by decide +kernel
theorem dX9_append_38 : decode cX9_append 38 = .ok (.aload_n 0, 1) := by decide +kernel
theorem dX9_append_39 : decode cX9_append 39 = .ok (.getfield 26, 3) := by decide +kernel
theorem dX9_append_42 : decode cX9_append 42 = .ok (.getfield 156, 3) := by decide +kernel
theorem dX9_append_45 : decode cX9_append 45 = .ok (.ireturn, 1) := by decide +kernel
theorem dX9_clearBuffer_0 : decode cX9_clearBuffer 0 = .ok (.aload_n 0, 1) := by decide +kernel
theorem dX9_clearBuffer_1 : decode cX9_clearBuffer 1 = .ok (.getfield 26, 3) := by decide +kernel
theorem dX9_clearBuffer_4 : decode cX9_clearBuffer 4 = .ok (.getfield 156, 3) := by decide +kernel
theorem dX9_clearBuffer_7 : decode cX9_clearBuffer 7 = .ok (.istore_n 1, 1) := by decide +kernel
theorem dX9_clearBuffer_8 : decode cX9_clearBuffer 8 = .ok (.aload_n 0, 1) := by decide +kernel
theorem dX9_clearBuffer_9 : decode cX9_clearBuffer 9 = .ok (.getfield 26, 3) := by decide +kernel
theorem dX9_clearBuffer_12 : decode cX9_clearBuffer 12 = .ok (.invokevirtual 164, 3) := by decide +kernel
theorem dX9_clearBuffer_15 : decode cX9_clearBuffer 15 = .ok (.iload_n 1, 1) := by decide +kernel
theorem dX9_clearBuffer_16 : decode cX9_clearBuffer 16 = .ok (.ireturn, 1) := by decide +kernel
theorem dX9_firstError_0 : decode cX9_firstError 0 = .ok (.new 165, 3) := by decide +kernel
theorem dX9_firstError_3 : decode cX9_firstError 3 = .ok (.dup, 1) := by decide +kernel
theorem dX9_firstError_4 : decode cX9_firstError 4 = .ok (.invokespecial 167, 3) := by decide +kernel
theorem dX9_firstError_7 : decode cX9_firstError 7 = .ok (.aload_n 0, 1) := by decide +kernel
theorem dX9_firstError_8 : decode cX9_firstError 8 = .ok (.getfield 26, 3) := by decide +kernel
theorem dX9_firstError_11 : decode cX9_firstError 11 = .ok (.invokevirtual 168, 3) := by decide +kernel
theorem dX9_firstError_14 : decode cX9_firstError 14 = .ok (.ireturn, 1) := by decide +kernel
theorem dX9_addAll_0 : decode cX9_addAll 0 = .ok (.new 165, 3) := by decide +kernel
theorem dX9_addAll_3 : decode cX9_addAll 3 = .ok (.dup, 1) := by decide +kernel
theorem dX9_addAll_4 : decode cX9_addAll 4 = .ok (.invokespecial 167, 3) := by decide +kernel
theorem dX9_addAll_7 : decode cX9_addAll 7 = .ok (.astore_n 1, 1) := by decide +kernel
theorem dX9_addAll_8 : decode cX9_addAll 8 = .ok (.aload_n 1, 1) := by decide +kernel
theorem dX9_addAll_9 : decode cX9_addAll 9 = .ok (.aload_n 0, 1) := by decide +kernel
theorem dX9_addAll_10 : decode cX9_addAll 10 = .ok (.getfield 26, 3) := by decide +kernel
theorem dX9_addAll_13 : decode cX9_addAll 13 = .ok (.invokevirtual 168, 3) := by decide +kernel
theorem dX9_addAll_16 : decode cX9_addAll 16 = .ok (.aload_n 0, 1) := by decide +kernel
theorem dX9_addAll_17 : decode cX9_addAll 17 = .ok (.getfield 26, 3) := by decide +kernel
theorem dX9_addAll_20 : decode cX9_addAll 20 = .ok (.getfield 156, 3) := by decide +kernel
theorem dX9_addAll_23 : decode cX9_addAll 23 = .ok (.if_icmp .lt 10, 3) := by decide +kernel
theorem dX9_addAll_26 : decode cX9_addAll 26 = .ok (.aload_n 1, 1) := by decide +kernel
theorem dX9_addAll_27 : decode cX9_addAll 27 = .ok (.invokevirtual 172, 3) := by decide +kernel
theorem dX9_addAll_30 : decode cX9_addAll 30 = .ok (.ifCond .ne 13, 3) := by decide +kernel
theorem dX9_addAll_33 : decode cX9_addAll 33 = .ok (.new 51, 3) := by decide +kernel
theorem dX9_addAll_36 : decode cX9_addAll 36 = .ok (.dup, 1) := by decide +kernel
theorem dX9_addAll_37 : decode cX9_addAll 37 = .ok (.ldc 176, 2) := by decide +kernel
theorem dX9_addAll_39 : decode cX9_addAll 39 = .ok (.invokespecial 55, 3) := by decide +kernel
theorem dX9_addAll_42 : decode cX9_addAll 42 = .ok (.athrow, 1) := by decide +kernel
theorem dX9_addAll_43 : decode cX9_addAll 43 = .ok (.aload_n 0, 1) := by decide +kernel
theorem dX9_addAll_44 : decode cX9_addAll 44 = .ok (.getfield 12, 3) := by decide +kernel
theorem dX9_addAll_47 : decode cX9_addAll 47 = .ok (.getfield 58, 3) := by decide +kernel
theorem dX9_addAll_50 : decode cX9_addAll 50 = .ok (.aload_n 1, 1) := by decide +kernel
theorem dX9_addAll_51 : decode cX9_addAll 51 = .ok (.getfield 178, 3) := by decide +kernel
theorem dX9_addAll_54 : decode cX9_addAll 54 = .ok (.iadd, 1) := by decide +kernel
theorem dX9_addAll_55 : decode cX9_addAll 55 = .ok (.bipush 6, 2) := by decide +kernel
theorem dX9_addAll_57 : decode cX9_addAll 57 = .ok (.if_icmp .le 13, 3) := by decide +kernel
theorem dX9_addAll_60 : decode cX9_addAll 60 = .ok (.new 62, 3) := by decide +kernel
theorem dX9_addAll_63 : decode cX9_addAll 63 = .ok (.dup, 1) := by decide +kernel
theorem dX9_addAll_64 : decode cX9_addAll 64 = .ok (.ldc 179, 2) := by decide +kernel
theorem dX9_addAll_66 : decode cX9_addAll 66 = .ok (.invokespecial 66, 3) := by decide +kernel
theorem dX9_addAll_69 : decode cX9_addAll 69 = .ok (.athrow, 1) := by decide +kernel
theorem dX9_addAll_70 : decode cX9_addAll 70 = .ok (.aload_n 0, 1) := by decide +kernel
theorem dX9_addAll_71 : decode cX9_addAll 71 = .ok (.getfield 19, 3) := by decide +kernel
theorem dX9_addAll_74 : decode cX9_addAll 74 = .ok (.aload_n 0, 1) := by decide +kernel
theorem dX9_addAll_75 : decode cX9_addAll 75 = .ok (.getfield 12, 3) := by decide +kernel
theorem dX9_addAll_78 : decode cX9_addAll 78 = .ok (.invokevirtual 67, 3) := by decide +kernel
theorem dX9_addAll_81 : decode cX9_addAll 81 = .ok (.aload_n 0, 1) := by decide +kernel
theorem dX9_addAll_82 : decode cX9_addAll 82 = .ok (.getfield 26, 3) := by decide +kernel
theorem dX9_addAll_85 : decode cX9_addAll 85 = .ok (.aload_n 0, 1) := by decide +kernel
theorem dX9_addAll_86 : decode cX9_addAll 86 = .ok (.getfield 12, 3) := by decide +kernel
theorem dX9_addAll_89 : decode cX9_addAll 89 = .ok (.invokevirtual 181, 3) := by decide +kernel
theorem dX9_addAll_92 : decode cX9_addAll 92 = .ok (.aload_n 0, 1) := by decide +kernel
theorem dX9_addAll_93 : decode cX9_addAll 93 = .ok (.getfield 26, 3) := by decide +kernel
theorem dX9_addAll_96 : decode cX9_addAll 96 = .ok (.invokevirtual 164, 3) := by decide +kernel
theorem dX9_addAll_99 : decode cX9_addAll 99 = .ok (.aload_n 0, 1) := by decide +kernel
theorem dX9_addAll_100 : decode cX9_addAll 100 = .ok (.getfield 12, 3) := by decide +kernel
theorem dX9_addAll_103 : decode cX9_addAll 103 = .ok (.getfield 58, 3) := by decide +kernel
theorem dX9_addAll_106 : decode cX9_addAll 106 = .ok (.ireturn, 1) := by decide +kernel
theorem dX9_undo_0 : decode cX9_undo 0 = .ok (.aload_n 0, 1) := by decide +kernel
theorem dX9_undo_1 : decode cX9_undo 1 = .ok (.getfield 19, 3) := by decide +kernel
theorem dX9_undo_4 : decode cX9_undo 4 = .ok (.getfield 184, 3) := by decide +kernel
theorem dX9_undo_7 : decode cX9_undo 7 = .ok (.ifCond .ne 13, 3) := by decide +kernel
theorem dX9_undo_10 : decode cX9_undo 10 = .ok (.new 62, 3) := by decide +kernel
theorem dX9_undo_13 : decode cX9_undo 13 = .ok (.dup, 1) := by decide +kernel
theorem dX9_undo_14 : decode cX9_undo 14 = .ok (.ldc 185, 2) := by decide +kernel
theorem dX9_undo_16 : decode cX9_undo 16 = .ok (.invokespecial 66, 3) := by decide +kernel
theorem dX9_undo_19 : decode cX9_undo 19 = .ok (.athrow, 1) := by decide +kernel
theorem dX9_undo_20 : decode cX9_undo 20 = .ok (.aload_n 0, 1) := by decide +kernel
theorem dX9_undo_21 : decode cX9_undo 21 = .ok (.getfield 19, 3) := by decide +kernel
theorem dX9_undo_24 : decode cX9_undo 24 = .ok (.aload_n 0, 1) := by decide +kernel
theorem dX9_undo_25 : decode cX9_undo 25 = .ok (.getfield 12, 3) := by decide +kernel
theorem dX9_undo_28 : decode cX9_undo 28 = .ok (.invokevirtual 187, 3) := by decide +kernel
theorem dX9_undo_31 : decode cX9_undo 31 = .ok (.aload_n 0, 1) := by decide +kernel
theorem dX9_undo_32 : decode cX9_undo 32 = .ok (.getfield 19, 3) := by decide +kernel
theorem dX9_undo_35 : decode cX9_undo 35 = .ok (.getfield 184, 3) := by decide +kernel
theorem dX9_undo_38 : decode cX9_undo 38 = .ok (.ireturn, 1) := by decide +kernel
theorem dX9_part_0 : decode cX9_part 0 = .ok (.aload_n 0, 1) := by decide +kernel
theorem dX9_part_1 : decode cX9_part 1 = .ok (.iload_n 1, 1) := by decide +kernel
theorem dX9_part_2 : decode cX9_part 2 = .ok (.invokevirtual 79, 3) := by decide +kernel
theorem dX9_part_5 : decode cX9_part 5 = .ok (.iload_n 2, 1) := by decide +kernel
theorem dX9_part_6 : decode cX9_part 6 = .ok (.iconst 0, 1) := by decide +kernel
theorem dX9_part_7 : decode cX9_part 7 = .ok (.bipush 6, 2) := by decide +kernel
theorem dX9_part_9 : decode cX9_part 9 = .ok (.invokestatic 89, 3) := by decide +kernel
theorem dX9_part_12 : decode cX9_part 12 = .ok (.iload_n 2, 1) := by decide +kernel
theorem dX9_part_13 : decode cX9_part 13 = .ok (.tableswitch 111 0 5 #[39, 51, 63, 75, 87, 99], 39) := by decide +kernel
theorem dX9_part_52 : decode cX9_part 52 = .ok (.aload_n 0, 1) := by decide +kernel
theorem dX9_part_53 : decode cX9_part 53 = .ok (.getfield 12, 3) := by decide +kernel
theorem dX9_part_56 : decode cX9_part 56 = .ok (.getfield 92, 3) := by decide +kernel
theorem dX9_part_59 : decode cX9_part 59 = .ok (.iload_n 1, 1) := by decide +kernel
theorem dX9_part_60 : decode cX9_part 60 = .ok (.invokevirtual 102, 3) := by decide +kernel
theorem dX9_part_63 : decode cX9_part 63 = .ok (.ireturn, 1) := by decide +kernel
theorem dX9_part_64 : decode cX9_part 64 = .ok (.aload_n 0, 1) := by decide +kernel
theorem dX9_part_65 : decode cX9_part 65 = .ok (.getfield 12, 3) := by decide +kernel
theorem dX9_part_68 : decode cX9_part 68 = .ok (.getfield 113, 3) := by decide +kernel
theorem dX9_part_71 : decode cX9_part 71 = .ok (.iload_n 1, 1) := by decide +kernel
theorem dX9_part_72 : decode cX9_part 72 = .ok (.invokevirtual 102, 3) := by decide +kernel
theorem dX9_part_75 : decode cX9_part 75 = .ok (.ireturn, 1) := by decide +kernel
theorem dX9_part_76 : decode cX9_part 76 = .ok (.aload_n 0, 1) := by decide +kernel
theorem dX9_part_77 : decode cX9_part 77 = .ok (.getfield 12, 3) := by decide +kernel
theorem dX9_part_80 : decode cX9_part 80 = .ok (.getfield 92, 3) := by decide +kernel
theorem dX9_part_83 : decode cX9_part 83 = .ok (.iload_n 1, 1) := by decide +kernel
theorem dX9_part_84 : decode cX9_part 84 = .ok (.invokevirtual 190, 3) := by decide +kernel
theorem dX9_part_87 : decode cX9_part 87 = .ok (.ireturn, 1) := by decide +kernel
theorem dX9_part_88 : decode cX9_part 88 = .ok (.aload_n 0, 1) := by decide +kernel
theorem dX9_part_89 : decode cX9_part 89 = .ok (.getfield 12, 3) := by decide +kernel
theorem dX9_part_92 : decode cX9_part 92 = .ok (.getfield 92, 3) := by decide +kernel
theorem dX9_part_95 : decode cX9_part 95 = .ok (.iload_n 1, 1) := by decide +kernel
theorem dX9_part_96 : decode cX9_part 96 = .ok (.invokevirtual 193, 3) := by decide +kernel
theorem dX9_part_99 : decode cX9_part 99 = .ok (.ireturn, 1) := by decide +kernel
theorem dX9_part_100 : decode cX9_part 100 = .ok (.aload_n 0, 1) := by decide +kernel
theorem dX9_part_101 : decode cX9_part 101 = .ok (.getfield 12, 3) := by decide +kernel
theorem dX9_part_104 : decode cX9_part 104 = .ok (.getfield 92, 3) := by decide +kernel
theorem dX9_part_107 : decode cX9_part 107 = .ok (.iload_n 1, 1) := by decide +kernel
theorem dX9_part_108 : decode cX9_part 108 = .ok (.invokevirtual 196, 3) := by decide +kernel
theorem dX9_part_111 : decode cX9_part 111 = .ok (.ireturn, 1) := by decide +kernel
theorem dX9_part_112 : decode cX9_part 112 = .ok (.aload_n 0, 1) := by decide +kernel
theorem dX9_part_113 : decode cX9_part 113 = .ok (.getfield 12, 3) := by decide +kernel
theorem dX9_part_116 : decode cX9_part 116 = .ok (.getfield 113, 3) := by decide +kernel
theorem dX9_part_119 : decode cX9_part 119 = .ok (.iload_n 1, 1) := by decide +kernel
theorem dX9_part_120 : decode cX9_part 120 = .ok (.invokevirtual 196, 3) := by decide +kernel
theorem dX9_part_123 : decode cX9_part 123 = .ok (.ireturn, 1) := by decide +kernel
theorem dX9_part_124 : decode cX9_part 124 = .ok (.aload_n 0, 1) := by decide +kernel
theorem dX9_part_125 : decode cX9_part 125 = .ok (.getfield 12, 3) := by decide +kernel
theorem dX9_part_128 : decode cX9_part 128 = .ok (.getfield 136, 3) := by decide +kernel
theorem dX9_part_131 : decode cX9_part 131 = .ok (.iload_n 1, 1) := by decide +kernel
theorem dX9_part_132 : decode cX9_part 132 = .ok (.invokevirtual 199, 3) := by decide +kernel
theorem dX9_part_135 : decode cX9_part 135 = .ok (.ireturn, 1) := by decide +kernel
theorem dX9_weight_0 : decode cX9_weight 0 = .ok (.aload_n 0, 1) := by decide +kernel
theorem dX9_weight_1 : decode cX9_weight 1 = .ok (.iload_n 1, 1) := by decide +kernel
theorem dX9_weight_2 : decode cX9_weight 2 = .ok (.invokevirtual 79, 3) := by decide +kernel
theorem dX9_weight_5 : decode cX9_weight 5 = .ok (.iload_n 2, 1) := by decide +kernel
theorem dX9_weight_6 : decode cX9_weight 6 = .ok (.invokestatic 86, 3) := by decide +kernel
theorem dX9_weight_9 : decode cX9_weight 9 = .ok (.iload_n 3, 1) := by decide +kernel
theorem dX9_weight_10 : decode cX9_weight 10 = .ok (.ifCond .eq 18, 3) := by decide +kernel
theorem dX9_weight_13 : decode cX9_weight 13 = .ok (.aload_n 0, 1) := by decide +kernel
theorem dX9_weight_14 : decode cX9_weight 14 = .ok (.getfield 12, 3) := by decide +kernel
theorem dX9_weight_17 : decode cX9_weight 17 = .ok (.getfield 113, 3) := by decide +kernel
theorem dX9_weight_20 : decode cX9_weight 20 = .ok (.iload_n 1, 1) := by decide +kernel
theorem dX9_weight_21 : decode cX9_weight 21 = .ok (.iload_n 2, 1) := by decide +kernel
theorem dX9_weight_22 : decode cX9_weight 22 = .ok (.invokevirtual 96, 3) := by decide +kernel
theorem dX9_weight_25 : decode cX9_weight 25 = .ok (.goto 15, 3) := by decide +kernel
theorem dX9_weight_28 : decode cX9_weight 28 = .ok (.aload_n 0, 1) := by decide +kernel
theorem dX9_weight_29 : decode cX9_weight 29 = .ok (.getfield 12, 3) := by decide +kernel
theorem dX9_weight_32 : decode cX9_weight 32 = .ok (.getfield 92, 3) := by decide +kernel
theorem dX9_weight_35 : decode cX9_weight 35 = .ok (.iload_n 1, 1) := by decide +kernel
theorem dX9_weight_36 : decode cX9_weight 36 = .ok (.iload_n 2, 1) := by decide +kernel
theorem dX9_weight_37 : decode cX9_weight 37 = .ok (.invokevirtual 96, 3) := by decide +kernel
theorem dX9_weight_40 : decode cX9_weight 40 = .ok (.ireturn, 1) := by decide +kernel
theorem dX9_ways_0 : decode cX9_ways 0 = .ok (.iload_n 1, 1) := by decide +kernel
theorem dX9_ways_1 : decode cX9_ways 1 = .ok (.iconst 0, 1) := by decide +kernel
theorem dX9_ways_2 : decode cX9_ways 2 = .ok (.bipush 99, 2) := by decide +kernel
theorem dX9_ways_4 : decode cX9_ways 4 = .ok (.invokestatic 89, 3) := by decide +kernel
theorem dX9_ways_7 : decode cX9_ways 7 = .ok (.aload_n 0, 1) := by decide +kernel
theorem dX9_ways_8 : decode cX9_ways 8 = .ok (.getfield 33, 3) := by decide +kernel
theorem dX9_ways_11 : decode cX9_ways 11 = .ok (.aload_n 0, 1) := by decide +kernel
theorem dX9_ways_12 : decode cX9_ways 12 = .ok (.getfield 12, 3) := by decide +kernel
theorem dX9_ways_15 : decode cX9_ways 15 = .ok (.iconst (-1), 1) := by decide +kernel
theorem dX9_ways_16 : decode cX9_ways 16 = .ok (.invokevirtual 202, 3) := by decide +kernel
theorem dX9_ways_19 : decode cX9_ways 19 = .ok (.iload_n 2, 1) := by decide +kernel
theorem dX9_ways_20 : decode cX9_ways 20 = .ok (.ifCond .eq 14, 3) := by decide +kernel
theorem dX9_ways_23 : decode cX9_ways 23 = .ok (.aload_n 0, 1) := by decide +kernel
theorem dX9_ways_24 : decode cX9_ways 24 = .ok (.getfield 33, 3) := by decide +kernel
theorem dX9_ways_27 : decode cX9_ways 27 = .ok (.iload_n 1, 1) := by decide +kernel
theorem dX9_ways_28 : decode cX9_ways 28 = .ok (.invokevirtual 206, 3) := by decide +kernel
theorem dX9_ways_31 : decode cX9_ways 31 = .ok (.goto 11, 3) := by decide +kernel
theorem dX9_ways_34 : decode cX9_ways 34 = .ok (.aload_n 0, 1) := by decide +kernel
theorem dX9_ways_35 : decode cX9_ways 35 = .ok (.getfield 33, 3) := by decide +kernel
theorem dX9_ways_38 : decode cX9_ways 38 = .ok (.iload_n 1, 1) := by decide +kernel
theorem dX9_ways_39 : decode cX9_ways 39 = .ok (.invokevirtual 210, 3) := by decide +kernel
theorem dX9_ways_42 : decode cX9_ways 42 = .ok (.lreturn, 1) := by decide +kernel
theorem dX9_likeliest_0 : decode cX9_likeliest 0 = .ok (.aload_n 0, 1) := by decide +kernel
theorem dX9_likeliest_1 : decode cX9_likeliest 1 = .ok (.iload_n 1, 1) := by decide +kernel
theorem dX9_likeliest_2 : decode cX9_likeliest 2 = .ok (.invokevirtual 79, 3) := by decide +kernel
theorem dX9_likeliest_5 : decode cX9_likeliest 5 = .ok (.aload_n 0, 1) := by decide +kernel
theorem dX9_likeliest_6 : decode cX9_likeliest 6 = .ok (.getfield 40, 3) := by decide +kernel
theorem dX9_likeliest_9 : decode cX9_likeliest 9 = .ok (.aload_n 0, 1) := by decide +kernel
theorem dX9_likeliest_10 : decode cX9_likeliest 10 = .ok (.getfield 12, 3) := by decide +kernel
theorem dX9_likeliest_13 : decode cX9_likeliest 13 = .ok (.invokevirtual 213, 3) := by decide +kernel
theorem dX9_likeliest_16 : decode cX9_likeliest 16 = .ok (.aload_n 0, 1) := by decide +kernel
theorem dX9_likeliest_17 : decode cX9_likeliest 17 = .ok (.getfield 40, 3) := by decide +kernel
theorem dX9_likeliest_20 : decode cX9_likeliest 20 = .ok (.aload_n 0, 1) := by decide +kernel
theorem dX9_likeliest_21 : decode cX9_likeliest 21 = .ok (.getfield 12, 3) := by decide +kernel
theorem dX9_likeliest_24 : decode cX9_likeliest 24 = .ok (.iload_n 1, 1) := by decide +kernel
theorem dX9_likeliest_25 : decode cX9_likeliest 25 = .ok (.invokevirtual 215, 3) := by decide +kernel
theorem dX9_likeliest_28 : decode cX9_likeliest 28 = .ok (.ireturn, 1) := by decide +kernel
theorem dX9_count_0 : decode cX9_count 0 = .ok (.iload_n 1, 1) := by decide +kernel
theorem dX9_count_1 : decode cX9_count 1 = .ok (.iconst 0, 1) := by decide +kernel
theorem dX9_count_2 : decode cX9_count 2 = .ok (.bipush 8, 2) := by decide +kernel
theorem dX9_count_4 : decode cX9_count 4 = .ok (.invokestatic 89, 3) := by decide +kernel
theorem dX9_count_7 : decode cX9_count 7 = .ok (.iload_n 1, 1) := by decide +kernel
theorem dX9_count_8 : decode cX9_count 8 = .ok (.tableswitch 136 0 7 #[48, 56, 64, 72, 83, 94, 102, 110], 48) := by decide +kernel
theorem dX9_count_56 : decode cX9_count 56 = .ok (.aload_n 0, 1) := by decide +kernel
theorem dX9_count_57 : decode cX9_count 57 = .ok (.getfield 12, 3) := by decide +kernel
theorem dX9_count_60 : decode cX9_count 60 = .ok (.getfield 58, 3) := by decide +kernel
theorem dX9_count_63 : decode cX9_count 63 = .ok (.ireturn, 1) := by decide +kernel
theorem dX9_count_64 : decode cX9_count 64 = .ok (.aload_n 0, 1) := by decide +kernel
theorem dX9_count_65 : decode cX9_count 65 = .ok (.getfield 12, 3) := by decide +kernel
theorem dX9_count_68 : decode cX9_count 68 = .ok (.getfield 125, 3) := by decide +kernel
theorem dX9_count_71 : decode cX9_count 71 = .ok (.ireturn, 1) := by decide +kernel
theorem dX9_count_72 : decode cX9_count 72 = .ok (.aload_n 0, 1) := by decide +kernel
theorem dX9_count_73 : decode cX9_count 73 = .ok (.getfield 12, 3) := by decide +kernel
