theorem dX4_weighedAt_5 : decode cX4_weighedAt 5 = .ok (.iconst 0, 1) := by decide +kernel
theorem dX4_weighedAt_6 : decode cX4_weighedAt 6 = .ok (.istore 7, 2) := by decide +kernel
theorem dX4_weighedAt_8 : decode cX4_weighedAt 8 = .ok (.iload 7, 2) := by decide +kernel
theorem dX4_weighedAt_10 : decode cX4_weighedAt 10 = .ok (.aload_n 0, 1) := by decide +kernel
theorem dX4_weighedAt_11 : decode cX4_weighedAt 11 = .ok (.getfield 21, 3) := by decide +kernel
theorem dX4_weighedAt_14 : decode cX4_weighedAt 14 = .ok (.if_icmp .ge 40, 3) := by decide +kernel
theorem dX4_weighedAt_17 : decode cX4_weighedAt 17 = .ok (.aload_n 0, 1) := by decide +kernel
theorem dX4_weighedAt_18 : decode cX4_weighedAt 18 = .ok (.iload 7, 2) := by decide +kernel
theorem dX4_weighedAt_20 : decode cX4_weighedAt 20 = .ok (.iload_n 1, 1) := by decide +kernel
theorem dX4_weighedAt_21 : decode cX4_weighedAt 21 = .ok (.iload_n 2, 1) := by decide +kernel
theorem dX4_weighedAt_22 : decode cX4_weighedAt 22 = .ok (.invokevirtual 32, 3) := by decide +kernel
theorem dX4_weighedAt_25 : decode cX4_weighedAt 25 = .ok (.lstore 8, 2) := by decide +kernel
theorem dX4_weighedAt_27 : decode cX4_weighedAt 27 = .ok (.lload_n 3, 1) := by decide +kernel
theorem dX4_weighedAt_28 : decode cX4_weighedAt 28 = .ok (.lload 8, 2) := by decide +kernel
theorem dX4_weighedAt_30 : decode cX4_weighedAt 30 = .ok (.aload_n 0, 1) := by decide +kernel
theorem dX4_weighedAt_31 : decode cX4_weighedAt 31 = .ok (.getfield 18, 3) := by decide +kernel
theorem dX4_weighedAt_34 : decode cX4_weighedAt 34 = .ok (.iload 7, 2) := by decide +kernel
theorem dX4_weighedAt_36 : decode cX4_weighedAt 36 = .ok (.iaload, 1) := by decide +kernel
theorem dX4_weighedAt_37 : decode cX4_weighedAt 37 = .ok (.i2l, 1) := by decide +kernel
theorem dX4_weighedAt_38 : decode cX4_weighedAt 38 = .ok (.lmul, 1) := by decide +kernel
theorem dX4_weighedAt_39 : decode cX4_weighedAt 39 = .ok (.ladd, 1) := by decide +kernel
theorem dX4_weighedAt_40 : decode cX4_weighedAt 40 = .ok (.lstore_n 3, 1) := by decide +kernel
theorem dX4_weighedAt_41 : decode cX4_weighedAt 41 = .ok (.lload 5, 2) := by decide +kernel
theorem dX4_weighedAt_43 : decode cX4_weighedAt 43 = .ok (.lload 8, 2) := by decide +kernel
theorem dX4_weighedAt_45 : decode cX4_weighedAt 45 = .ok (.ladd, 1) := by decide +kernel
theorem dX4_weighedAt_46 : decode cX4_weighedAt 46 = .ok (.lstore 5, 2) := by decide +kernel
theorem dX4_weighedAt_48 : decode cX4_weighedAt 48 = .ok (.iinc 7 1, 3) := by decide +kernel
theorem dX4_weighedAt_51 : decode cX4_weighedAt 51 = .ok (.goto (-43), 3) := by decide +kernel
theorem dX4_weighedAt_54 : decode cX4_weighedAt 54 = .ok (.lload 5, 2) := by decide +kernel
theorem dX4_weighedAt_56 : decode cX4_weighedAt 56 = .ok (.lconst 0, 1) := by decide +kernel
theorem dX4_weighedAt_57 : decode cX4_weighedAt 57 = .ok (.lcmp, 1) := by decide +kernel
theorem dX4_weighedAt_58 : decode cX4_weighedAt 58 = .ok (.ifCond .ne 7, 3) := by decide +kernel
theorem dX4_weighedAt_61 : decode cX4_weighedAt 61 = .ok (.iconst (-1), 1) := by decide +kernel
theorem dX4_weighedAt_62 : decode cX4_weighedAt 62 = .ok (.goto 8, 3) := by decide +kernel
theorem dX4_weighedAt_65 : decode cX4_weighedAt 65 = .ok (.lload_n 3, 1) := by decide +kernel
theorem dX4_weighedAt_66 : decode cX4_weighedAt 66 = .ok (.lload 5, 2) := by decide +kernel
theorem dX4_weighedAt_68 : decode cX4_weighedAt 68 = .ok (.ldiv, 1) := by decide +kernel
theorem dX4_weighedAt_69 : decode cX4_weighedAt 69 = .ok (.l2i, 1) := by decide +kernel
theorem dX4_weighedAt_70 : decode cX4_weighedAt 70 = .ok (.ireturn, 1) := by decide +kernel
theorem dX4_distancesBut_0 : decode cX4_distancesBut 0 = .ok (.lconst 1, 1) := by decide +kernel
theorem dX4_distancesBut_1 : decode cX4_distancesBut 1 = .ok (.lstore 4, 2) := by decide +kernel
theorem dX4_distancesBut_3 : decode cX4_distancesBut 3 = .ok (.iconst 0, 1) := by decide +kernel
theorem dX4_distancesBut_4 : decode cX4_distancesBut 4 = .ok (.istore 6, 2) := by decide +kernel
theorem dX4_distancesBut_6 : decode cX4_distancesBut 6 = .ok (.iload 6, 2) := by decide +kernel
theorem dX4_distancesBut_8 : decode cX4_distancesBut 8 = .ok (.aload_n 0, 1) := by decide +kernel
theorem dX4_distancesBut_9 : decode cX4_distancesBut 9 = .ok (.getfield 21, 3) := by decide +kernel
theorem dX4_distancesBut_12 : decode cX4_distancesBut 12 = .ok (.if_icmp .ge 54, 3) := by decide +kernel
theorem dX4_distancesBut_15 : decode cX4_distancesBut 15 = .ok (.iload 6, 2) := by decide +kernel
theorem dX4_distancesBut_17 : decode cX4_distancesBut 17 = .ok (.iload_n 1, 1) := by decide +kernel
theorem dX4_distancesBut_18 : decode cX4_distancesBut 18 = .ok (.if_icmp .eq 42, 3) := by decide +kernel
theorem dX4_distancesBut_21 : decode cX4_distancesBut 21 = .ok (.aload_n 0, 1) := by decide +kernel
theorem dX4_distancesBut_22 : decode cX4_distancesBut 22 = .ok (.getfield 9, 3) := by decide +kernel
theorem dX4_distancesBut_25 : decode cX4_distancesBut 25 = .ok (.iload 6, 2) := by decide +kernel
theorem dX4_distancesBut_27 : decode cX4_distancesBut 27 = .ok (.iaload, 1) := by decide +kernel
theorem dX4_distancesBut_28 : decode cX4_distancesBut 28 = .ok (.iload_n 2, 1) := by decide +kernel
theorem dX4_distancesBut_29 : decode cX4_distancesBut 29 = .ok (.isub, 1) := by decide +kernel
theorem dX4_distancesBut_30 : decode cX4_distancesBut 30 = .ok (.istore 7, 2) := by decide +kernel
theorem dX4_distancesBut_32 : decode cX4_distancesBut 32 = .ok (.aload_n 0, 1) := by decide +kernel
theorem dX4_distancesBut_33 : decode cX4_distancesBut 33 = .ok (.getfield 15, 3) := by decide +kernel
theorem dX4_distancesBut_36 : decode cX4_distancesBut 36 = .ok (.iload 6, 2) := by decide +kernel
theorem dX4_distancesBut_38 : decode cX4_distancesBut 38 = .ok (.iaload, 1) := by decide +kernel
theorem dX4_distancesBut_39 : decode cX4_distancesBut 39 = .ok (.iload_n 3, 1) := by decide +kernel
theorem dX4_distancesBut_40 : decode cX4_distancesBut 40 = .ok (.isub, 1) := by decide +kernel
theorem dX4_distancesBut_41 : decode cX4_distancesBut 41 = .ok (.istore 8, 2) := by decide +kernel
theorem dX4_distancesBut_43 : decode cX4_distancesBut 43 = .ok (.lload 4, 2) := by decide +kernel
theorem dX4_distancesBut_45 : decode cX4_distancesBut 45 = .ok (.iload 7, 2) := by decide +kernel
theorem dX4_distancesBut_47 : decode cX4_distancesBut 47 = .ok (.iload 7, 2) := by decide +kernel
theorem dX4_distancesBut_49 : decode cX4_distancesBut 49 = .ok (.imul, 1) := by decide +kernel
theorem dX4_distancesBut_50 : decode cX4_distancesBut 50 = .ok (.iload 8, 2) := by decide +kernel
theorem dX4_distancesBut_52 : decode cX4_distancesBut 52 = .ok (.iload 8, 2) := by decide +kernel
theorem dX4_distancesBut_54 : decode cX4_distancesBut 54 = .ok (.imul, 1) := by decide +kernel
theorem dX4_distancesBut_55 : decode cX4_distancesBut 55 = .ok (.iadd, 1) := by decide +kernel
theorem dX4_distancesBut_56 : decode cX4_distancesBut 56 = .ok (.i2l, 1) := by decide +kernel
theorem dX4_distancesBut_57 : decode cX4_distancesBut 57 = .ok (.lmul, 1) := by decide +kernel
theorem dX4_distancesBut_58 : decode cX4_distancesBut 58 = .ok (.lstore 4, 2) := by decide +kernel
theorem dX4_distancesBut_60 : decode cX4_distancesBut 60 = .ok (.iinc 6 1, 3) := by decide +kernel
theorem dX4_distancesBut_63 : decode cX4_distancesBut 63 = .ok (.goto (-57), 3) := by decide +kernel
theorem dX4_distancesBut_66 : decode cX4_distancesBut 66 = .ok (.lload 4, 2) := by decide +kernel
theorem dX4_distancesBut_68 : decode cX4_distancesBut 68 = .ok (.lreturn, 1) := by decide +kernel
theorem dX4_copyFrom_0 : decode cX4_copyFrom 0 = .ok (.aload_n 1, 1) := by decide +kernel
theorem dX4_copyFrom_1 : decode cX4_copyFrom 1 = .ok (.getfield 9, 3) := by decide +kernel
theorem dX4_copyFrom_4 : decode cX4_copyFrom 4 = .ok (.iconst 0, 1) := by decide +kernel
theorem dX4_copyFrom_5 : decode cX4_copyFrom 5 = .ok (.aload_n 0, 1) := by decide +kernel
theorem dX4_copyFrom_6 : decode cX4_copyFrom 6 = .ok (.getfield 9, 3) := by decide +kernel
theorem dX4_copyFrom_9 : decode cX4_copyFrom 9 = .ok (.iconst 0, 1) := by decide +kernel
theorem dX4_copyFrom_10 : decode cX4_copyFrom 10 = .ok (.iconst 4, 1) := by decide +kernel
theorem dX4_copyFrom_11 : decode cX4_copyFrom 11 = .ok (.invokestatic 36, 3) := by decide +kernel
theorem dX4_copyFrom_14 : decode cX4_copyFrom 14 = .ok (.aload_n 1, 1) := by decide +kernel
theorem dX4_copyFrom_15 : decode cX4_copyFrom 15 = .ok (.getfield 15, 3) := by decide +kernel
theorem dX4_copyFrom_18 : decode cX4_copyFrom 18 = .ok (.iconst 0, 1) := by decide +kernel
theorem dX4_copyFrom_19 : decode cX4_copyFrom 19 = .ok (.aload_n 0, 1) := by decide +kernel
theorem dX4_copyFrom_20 : decode cX4_copyFrom 20 = .ok (.getfield 15, 3) := by decide +kernel
theorem dX4_copyFrom_23 : decode cX4_copyFrom 23 = .ok (.iconst 0, 1) := by decide +kernel
theorem dX4_copyFrom_24 : decode cX4_copyFrom 24 = .ok (.iconst 4, 1) := by decide +kernel
theorem dX4_copyFrom_25 : decode cX4_copyFrom 25 = .ok (.invokestatic 36, 3) := by decide +kernel
theorem dX4_copyFrom_28 : decode cX4_copyFrom 28 = .ok (.aload_n 1, 1) := by decide +kernel
theorem dX4_copyFrom_29 : decode cX4_copyFrom 29 = .ok (.getfield 18, 3) := by decide +kernel
theorem dX4_copyFrom_32 : decode cX4_copyFrom 32 = .ok (.iconst 0, 1) := by decide +kernel
theorem dX4_copyFrom_33 : decode cX4_copyFrom 33 = .ok (.aload_n 0, 1) := by decide +kernel
theorem dX4_copyFrom_34 : decode cX4_copyFrom 34 = .ok (.getfield 18, 3) := by decide +kernel
theorem dX4_copyFrom_37 : decode cX4_copyFrom 37 = .ok (.iconst 0, 1) := by decide +kernel
theorem dX4_copyFrom_38 : decode cX4_copyFrom 38 = .ok (.iconst 4, 1) := by decide +kernel
theorem dX4_copyFrom_39 : decode cX4_copyFrom 39 = .ok (.invokestatic 36, 3) := by decide +kernel
theorem dX4_copyFrom_42 : decode cX4_copyFrom 42 = .ok (.aload_n 0, 1) := by decide +kernel
theorem dX4_copyFrom_43 : decode cX4_copyFrom 43 = .ok (.aload_n 1, 1) := by decide +kernel
theorem dX4_copyFrom_44 : decode cX4_copyFrom 44 = .ok (.getfield 21, 3) := by decide +kernel
theorem dX4_copyFrom_47 : decode cX4_copyFrom 47 = .ok (.putfield 21, 3) := by decide +kernel
theorem dX4_copyFrom_50 : decode cX4_copyFrom 50 = .ok (.return_, 1) := by decide +kernel
theorem dX5_init_0 : decode cX5_init 0 = .ok (.aload_n 0, 1) := by decide +kernel
theorem dX5_init_1 : decode cX5_init 1 = .ok (.invokespecial 3, 3) := by decide +kernel
theorem dX5_init_4 : decode cX5_init 4 = .ok (.aload_n 0, 1) := by decide +kernel
theorem dX5_init_5 : decode cX5_init 5 = .ok (.sipush 744, 3) := by decide +kernel
theorem dX5_init_8 : decode cX5_init 8 = .ok (.newarray .int, 2) := by decide +kernel
theorem dX5_init_10 : decode cX5_init 10 = .ok (.putfield 9, 3) := by decide +kernel
theorem dX5_init_13 : decode cX5_init 13 = .ok (.iconst 0, 1) := by decide +kernel
theorem dX5_init_14 : decode cX5_init 14 = .ok (.istore_n 1, 1) := by decide +kernel
theorem dX5_init_15 : decode cX5_init 15 = .ok (.iload_n 1, 1) := by decide +kernel
theorem dX5_init_16 : decode cX5_init 16 = .ok (.aload_n 0, 1) := by decide +kernel
theorem dX5_init_17 : decode cX5_init 17 = .ok (.getfield 9, 3) := by decide +kernel
theorem dX5_init_20 : decode cX5_init 20 = .ok (.arraylength, 1) := by decide +kernel
theorem dX5_init_21 : decode cX5_init 21 = .ok (.if_icmp .ge 16, 3) := by decide +kernel
theorem dX5_init_24 : decode cX5_init 24 = .ok (.aload_n 0, 1) := by decide +kernel
theorem dX5_init_25 : decode cX5_init 25 = .ok (.getfield 9, 3) := by decide +kernel
theorem dX5_init_28 : decode cX5_init 28 = .ok (.iload_n 1, 1) := by decide +kernel
theorem dX5_init_29 : decode cX5_init 29 = .ok (.iconst (-1), 1) := by decide +kernel
theorem dX5_init_30 : decode cX5_init 30 = .ok (.iastore, 1) := by decide +kernel
theorem dX5_init_31 : decode cX5_init 31 = .ok (.iinc 1 1, 3) := by decide +kernel
theorem dX5_init_34 : decode cX5_init 34 = .ok (.goto (-19), 3) := by decide +kernel
theorem dX5_init_37 : decode cX5_init 37 = .ok (.return_, 1) := by decide +kernel
theorem dX5_cellOf_0 : decode cX5_cellOf 0 = .ok (.iload_n 0, 1) := by decide +kernel
theorem dX5_cellOf_1 : decode cX5_cellOf 1 = .ok (.bipush 31, 2) := by decide +kernel
theorem dX5_cellOf_3 : decode cX5_cellOf 3 = .ok (.imul, 1) := by decide +kernel
theorem dX5_cellOf_4 : decode cX5_cellOf 4 = .ok (.iload_n 1, 1) := by decide +kernel
theorem dX5_cellOf_5 : decode cX5_cellOf 5 = .ok (.iadd, 1) := by decide +kernel
theorem dX5_cellOf_6 : decode cX5_cellOf 6 = .ok (.ireturn, 1) := by decide +kernel
theorem dX5_put_0 : decode cX5_put 0 = .ok (.aload_n 0, 1) := by decide +kernel
theorem dX5_put_1 : decode cX5_put 1 = .ok (.getfield 9, 3) := by decide +kernel
theorem dX5_put_4 : decode cX5_put 4 = .ok (.iload_n 1, 1) := by decide +kernel
theorem dX5_put_5 : decode cX5_put 5 = .ok (.iload_n 2, 1) := by decide +kernel
theorem dX5_put_6 : decode cX5_put 6 = .ok (.invokestatic 15, 3) := by decide +kernel
theorem dX5_put_9 : decode cX5_put 9 = .ok (.iload_n 3, 1) := by decide +kernel
theorem dX5_put_10 : decode cX5_put 10 = .ok (.iconst 3, 1) := by decide +kernel
theorem dX5_put_11 : decode cX5_put 11 = .ok (.imul, 1) := by decide +kernel
theorem dX5_put_12 : decode cX5_put 12 = .ok (.iload 4, 2) := by decide +kernel
theorem dX5_put_14 : decode cX5_put 14 = .ok (.iadd, 1) := by decide +kernel
theorem dX5_put_15 : decode cX5_put 15 = .ok (.iastore, 1) := by decide +kernel
theorem dX5_put_16 : decode cX5_put 16 = .ok (.return_, 1) := by decide +kernel
theorem dX5_drop_0 : decode cX5_drop 0 = .ok (.aload_n 0, 1) := by decide +kernel
theorem dX5_drop_1 : decode cX5_drop 1 = .ok (.getfield 9, 3) := by decide +kernel
theorem dX5_drop_4 : decode cX5_drop 4 = .ok (.iload_n 1, 1) := by decide +kernel
theorem dX5_drop_5 : decode cX5_drop 5 = .ok (.iload_n 2, 1) := by decide +kernel
theorem dX5_drop_6 : decode cX5_drop 6 = .ok (.invokestatic 15, 3) := by decide +kernel
theorem dX5_drop_9 : decode cX5_drop 9 = .ok (.iconst (-1), 1) := by decide +kernel
theorem dX5_drop_10 : decode cX5_drop 10 = .ok (.iastore, 1) := by decide +kernel
theorem dX5_drop_11 : decode cX5_drop 11 = .ok (.return_, 1) := by decide +kernel
theorem dX5_isMissing_0 : decode cX5_isMissing 0 = .ok (.aload_n 0, 1) := by decide +kernel
theorem dX5_isMissing_1 : decode cX5_isMissing 1 = .ok (.getfield 9, 3) := by decide +kernel
theorem dX5_isMissing_4 : decode cX5_isMissing 4 = .ok (.iload_n 1, 1) := by decide +kernel
theorem dX5_isMissing_5 : decode cX5_isMissing 5 = .ok (.iload_n 2, 1) := by decide +kernel
theorem dX5_isMissing_6 : decode cX5_isMissing 6 = .ok (.invokestatic 15, 3) := by decide +kernel
theorem dX5_isMissing_9 : decode cX5_isMissing 9 = .ok (.iaload, 1) := by decide +kernel
theorem dX5_isMissing_10 : decode cX5_isMissing 10 = .ok (.iconst (-1), 1) := by decide +kernel
theorem dX5_isMissing_11 : decode cX5_isMissing 11 = .ok (.if_icmp .ne 7, 3) := by decide +kernel
theorem dX5_isMissing_14 : decode cX5_isMissing 14 = .ok (.iconst 1, 1) := by decide +kernel
theorem dX5_isMissing_15 : decode cX5_isMissing 15 = .ok (.goto 4, 3) := by decide +kernel
theorem dX5_isMissing_18 : decode cX5_isMissing 18 = .ok (.iconst 0, 1) := by decide +kernel
theorem dX5_isMissing_19 : decode cX5_isMissing 19 = .ok (.ireturn, 1) := by decide +kernel
theorem dX5_valueAt_0 : decode cX5_valueAt 0 = .ok (.aload_n 0, 1) := by decide +kernel
theorem dX5_valueAt_1 : decode cX5_valueAt 1 = .ok (.getfield 9, 3) := by decide +kernel
theorem dX5_valueAt_4 : decode cX5_valueAt 4 = .ok (.iload_n 1, 1) := by decide +kernel
theorem dX5_valueAt_5 : decode cX5_valueAt 5 = .ok (.iload_n 2, 1) := by decide +kernel
theorem dX5_valueAt_6 : decode cX5_valueAt 6 = .ok (.invokestatic 15, 3) := by decide +kernel
theorem dX5_valueAt_9 : decode cX5_valueAt 9 = .ok (.iaload, 1) := by decide +kernel
theorem dX5_valueAt_10 : decode cX5_valueAt 10 = .ok (.iconst 3, 1) := by decide +kernel
theorem dX5_valueAt_11 : decode cX5_valueAt 11 = .ok (.idiv, 1) := by decide +kernel
theorem dX5_valueAt_12 : decode cX5_valueAt 12 = .ok (.ireturn, 1) := by decide +kernel
theorem dX5_letterAt_0 : decode cX5_letterAt 0 = .ok (.aload_n 0, 1) := by decide +kernel
theorem dX5_letterAt_1 : decode cX5_letterAt 1 = .ok (.getfield 9, 3) := by decide +kernel
theorem dX5_letterAt_4 : decode cX5_letterAt 4 = .ok (.iload_n 1, 1) := by decide +kernel
theorem dX5_letterAt_5 : decode cX5_letterAt 5 = .ok (.iload_n 2, 1) := by decide +kernel
theorem dX5_letterAt_6 : decode cX5_letterAt 6 = .ok (.invokestatic 15, 3) := by decide +kernel
theorem dX5_letterAt_9 : decode cX5_letterAt 9 = .ok (.iaload, 1) := by decide +kernel
theorem dX5_letterAt_10 : decode cX5_letterAt 10 = .ok (.iconst 3, 1) := by decide +kernel
theorem dX5_letterAt_11 : decode cX5_letterAt 11 = .ok (.irem, 1) := by decide +kernel
theorem dX5_letterAt_12 : decode cX5_letterAt 12 = .ok (.ireturn, 1) := by decide +kernel
theorem dX5_presentIn_0 : decode cX5_presentIn 0 = .ok (.iconst 0, 1) := by decide +kernel
theorem dX5_presentIn_1 : decode cX5_presentIn 1 = .ok (.istore_n 2, 1) := by decide +kernel
theorem dX5_presentIn_2 : decode cX5_presentIn 2 = .ok (.iconst 0, 1) := by decide +kernel
theorem dX5_presentIn_3 : decode cX5_presentIn 3 = .ok (.istore_n 3, 1) := by decide +kernel
theorem dX5_presentIn_4 : decode cX5_presentIn 4 = .ok (.iload_n 3, 1) := by decide +kernel
theorem dX5_presentIn_5 : decode cX5_presentIn 5 = .ok (.bipush 31, 2) := by decide +kernel
theorem dX5_presentIn_7 : decode cX5_presentIn 7 = .ok (.if_icmp .ge 21, 3) := by decide +kernel
theorem dX5_presentIn_10 : decode cX5_presentIn 10 = .ok (.aload_n 0, 1) := by decide +kernel
theorem dX5_presentIn_11 : decode cX5_presentIn 11 = .ok (.iload_n 1, 1) := by decide +kernel
theorem dX5_presentIn_12 : decode cX5_presentIn 12 = .ok (.iload_n 3, 1) := by decide +kernel
theorem dX5_presentIn_13 : decode cX5_presentIn 13 = .ok (.invokevirtual 19, 3) := by decide +kernel
theorem dX5_presentIn_16 : decode cX5_presentIn 16 = .ok (.ifCond .ne 6, 3) := by decide +kernel
theorem dX5_presentIn_19 : decode cX5_presentIn 19 = .ok (.iinc 2 1, 3) := by decide +kernel
theorem dX5_presentIn_22 : decode cX5_presentIn 22 = .ok (.iinc 3 1, 3) := by decide +kernel
theorem dX5_presentIn_25 : decode cX5_presentIn 25 = .ok (.goto (-21), 3) := by decide +kernel
theorem dX5_presentIn_28 : decode cX5_presentIn 28 = .ok (.iload_n 2, 1) := by decide +kernel
theorem dX5_presentIn_29 : decode cX5_presentIn 29 = .ok (.ireturn, 1) := by decide +kernel
theorem dX5_present_0 : decode cX5_present 0 = .ok (.iconst 0, 1) := by decide +kernel
theorem dX5_present_1 : decode cX5_present 1 = .ok (.istore_n 1, 1) := by decide +kernel
theorem dX5_present_2 : decode cX5_present 2 = .ok (.iconst 0, 1) := by decide +kernel
theorem dX5_present_3 : decode cX5_present 3 = .ok (.istore_n 2, 1) := by decide +kernel
theorem dX5_present_4 : decode cX5_present 4 = .ok (.iload_n 2, 1) := by decide +kernel
theorem dX5_present_5 : decode cX5_present 5 = .ok (.bipush 24, 2) := by decide +kernel
theorem dX5_present_7 : decode cX5_present 7 = .ok (.if_icmp .ge 17, 3) := by decide +kernel
theorem dX5_present_10 : decode cX5_present 10 = .ok (.iload_n 1, 1) := by decide +kernel
theorem dX5_present_11 : decode cX5_present 11 = .ok (.aload_n 0, 1) := by decide +kernel
theorem dX5_present_12 : decode cX5_present 12 = .ok (.iload_n 2, 1) := by decide +kernel
theorem dX5_present_13 : decode cX5_present 13 = .ok (.invokevirtual 23, 3) := by decide +kernel
theorem dX5_present_16 : decode cX5_present 16 = .ok (.iadd, 1) := by decide +kernel
theorem dX5_present_17 : decode cX5_present 17 = .ok (.istore_n 1, 1) := by decide +kernel
theorem dX5_present_18 : decode cX5_present 18 = .ok (.iinc 2 1, 3) := by decide +kernel
theorem dX5_present_21 : decode cX5_present 21 = .ok (.goto (-17), 3) := by decide +kernel
theorem dX5_present_24 : decode cX5_present 24 = .ok (.iload_n 1, 1) := by decide +kernel
theorem dX5_present_25 : decode cX5_present 25 = .ok (.ireturn, 1) := by decide +kernel
theorem dX5_lettered_0 : decode cX5_lettered 0 = .ok (.iconst 0, 1) := by decide +kernel
theorem dX5_lettered_1 : decode cX5_lettered 1 = .ok (.istore_n 1, 1) := by decide +kernel
theorem dX5_lettered_2 : decode cX5_lettered 2 = .ok (.iconst 0, 1) := by decide +kernel
theorem dX5_lettered_3 : decode cX5_lettered 3 = .ok (.istore_n 2, 1) := by decide +kernel
theorem dX5_lettered_4 : decode cX5_lettered 4 = .ok (.iload_n 2, 1) := by decide +kernel
theorem dX5_lettered_5 : decode cX5_lettered 5 = .ok (.bipush 24, 2) := by decide +kernel
theorem dX5_lettered_7 : decode cX5_lettered 7 = .ok (.if_icmp .ge 44, 3) := by decide +kernel
theorem dX5_lettered_10 : decode cX5_lettered 10 = .ok (.iconst 0, 1) := by decide +kernel
theorem dX5_lettered_11 : decode cX5_lettered 11 = .ok (.istore_n 3, 1) := by decide +kernel
theorem dX5_lettered_12 : decode cX5_lettered 12 = .ok (.iload_n 3, 1) := by decide +kernel
theorem dX5_lettered_13 : decode cX5_lettered 13 = .ok (.bipush 31, 2) := by decide +kernel
theorem dX5_lettered_15 : decode cX5_lettered 15 = .ok (.if_icmp .ge 30, 3) := by decide +kernel
theorem dX5_lettered_18 : decode cX5_lettered 18 = .ok (.aload_n 0, 1) := by decide +kernel
theorem dX5_lettered_19 : decode cX5_lettered 19 = .ok (.iload_n 2, 1) := by decide +kernel
theorem dX5_lettered_20 : decode cX5_lettered 20 = .ok (.iload_n 3, 1) := by decide +kernel
theorem dX5_lettered_21 : decode cX5_lettered 21 = .ok (.invokevirtual 19, 3) := by decide +kernel
theorem dX5_lettered_24 : decode cX5_lettered 24 = .ok (.ifCond .ne 15, 3) := by decide +kernel
theorem dX5_lettered_27 : decode cX5_lettered 27 = .ok (.aload_n 0, 1) := by decide +kernel
theorem dX5_lettered_28 : decode cX5_lettered 28 = .ok (.iload_n 2, 1) := by decide +kernel
theorem dX5_lettered_29 : decode cX5_lettered 29 = .ok (.iload_n 3, 1) := by decide +kernel
theorem dX5_lettered_30 : decode cX5_lettered 30 = .ok (.invokevirtual 27, 3) := by decide +kernel
theorem dX5_lettered_33 : decode cX5_lettered 33 = .ok (.ifCond .eq 6, 3) := by decide +kernel
theorem dX5_lettered_36 : decode cX5_lettered 36 = .ok (.iinc 1 1, 3) := by decide +kernel
theorem dX5_lettered_39 : decode cX5_lettered 39 = .ok (.iinc 3 1, 3) := by decide +kernel
theorem dX5_lettered_42 : decode cX5_lettered 42 = .ok (.goto (-30), 3) := by decide +kernel
theorem dX5_lettered_45 : decode cX5_lettered 45 = .ok (.iinc 2 1, 3) := by decide +kernel
theorem dX5_lettered_48 : decode cX5_lettered 48 = .ok (.goto (-44), 3) := by decide +kernel
theorem dX5_lettered_51 : decode cX5_lettered 51 = .ok (.iload_n 1, 1) := by decide +kernel
theorem dX5_lettered_52 : decode cX5_lettered 52 = .ok (.ireturn, 1) := by decide +kernel
theorem dX5_copyFrom_0 : decode cX5_copyFrom 0 = .ok (.aload_n 1, 1) := by decide +kernel
theorem dX5_copyFrom_1 : decode cX5_copyFrom 1 = .ok (.getfield 9, 3) := by decide +kernel
theorem dX5_copyFrom_4 : decode cX5_copyFrom 4 = .ok (.iconst 0, 1) := by decide +kernel
theorem dX5_copyFrom_5 : decode cX5_copyFrom 5 = .ok (.aload_n 0, 1) := by decide +kernel
theorem dX5_copyFrom_6 : decode cX5_copyFrom 6 = .ok (.getfield 9, 3) := by decide +kernel
theorem dX5_copyFrom_9 : decode cX5_copyFrom 9 = .ok (.iconst 0, 1) := by decide +kernel
theorem dX5_copyFrom_10 : decode cX5_copyFrom 10 = .ok (.aload_n 0, 1) := by decide +kernel
theorem dX5_copyFrom_11 : decode cX5_copyFrom 11 = .ok (.getfield 9, 3) := by decide +kernel
theorem dX5_copyFrom_14 : decode cX5_copyFrom 14 = .ok (.arraylength, 1) := by decide +kernel
theorem dX5_copyFrom_15 : decode cX5_copyFrom 15 = .ok (.invokestatic 30, 3) := by decide +kernel
theorem dX5_copyFrom_18 : decode cX5_copyFrom 18 = .ok (.return_, 1) := by decide +kernel
theorem dX6_init_0 : decode cX6_init 0 = .ok (.aload_n 0, 1) := by decide +kernel
theorem dX6_init_1 : decode cX6_init 1 = .ok (.invokespecial 3, 3) := by decide +kernel
theorem dX6_init_4 : decode cX6_init 4 = .ok (.aload_n 0, 1) := by decide +kernel
theorem dX6_init_5 : decode cX6_init 5 = .ok (.sipush 768, 3) := by decide +kernel
theorem dX6_init_8 : decode cX6_init 8 = .ok (.newarray .int, 2) := by decide +kernel
theorem dX6_init_10 : decode cX6_init 10 = .ok (.putfield 9, 3) := by decide +kernel
theorem dX6_init_13 : decode cX6_init 13 = .ok (.aload_n 0, 1) := by decide +kernel
theorem dX6_init_14 : decode cX6_init 14 = .ok (.sipush 768, 3) := by decide +kernel
theorem dX6_init_17 : decode cX6_init 17 = .ok (.newarray .int, 2) := by decide +kernel
theorem dX6_init_19 : decode cX6_init 19 = .ok (.putfield 15, 3) := by decide +kernel
theorem dX6_init_22 : decode cX6_init 22 = .ok (.aload_n 0, 1) := by decide +kernel
theorem dX6_init_23 : decode cX6_init 23 = .ok (.bipush 24, 2) := by decide +kernel
theorem dX6_init_25 : decode cX6_init 25 = .ok (.newarray .int, 2) := by decide +kernel
theorem dX6_init_27 : decode cX6_init 27 = .ok (.putfield 18, 3) := by decide +kernel
theorem dX6_init_30 : decode cX6_init 30 = .ok (.aload_n 0, 1) := by decide +kernel
theorem dX6_init_31 : decode cX6_init 31 = .ok (.iconst 0, 1) := by decide +kernel
theorem dX6_init_32 : decode cX6_init 32 = .ok (.putfield 21, 3) := by decide +kernel
theorem dX6_init_35 : decode cX6_init 35 = .ok (.aload_n 0, 1) := by decide +kernel
theorem dX6_init_36 : decode cX6_init 36 = .ok (.iconst (-1), 1) := by decide +kernel
theorem dX6_init_37 : decode cX6_init 37 = .ok (.putfield 25, 3) := by decide +kernel
theorem dX6_init_40 : decode cX6_init 40 = .ok (.aload_n 0, 1) := by decide +kernel
theorem dX6_init_41 : decode cX6_init 41 = .ok (.iconst (-1), 1) := by decide +kernel
theorem dX6_init_42 : decode cX6_init 42 = .ok (.putfield 28, 3) := by decide +kernel
theorem dX6_init_45 : decode cX6_init 45 = .ok (.return_, 1) := by decide +kernel
theorem dX6_isFound_0 : decode cX6_isFound 0 = .ok (.aload_n 0, 1) := by decide +kernel
theorem dX6_isFound_1 : decode cX6_isFound 1 = .ok (.getfield 25, 3) := by decide +kernel
theorem dX6_isFound_4 : decode cX6_isFound 4 = .ok (.iconst (-1), 1) := by decide +kernel
theorem dX6_isFound_5 : decode cX6_isFound 5 = .ok (.if_icmp .eq 7, 3) := by decide +kernel
theorem dX6_isFound_8 : decode cX6_isFound 8 = .ok (.iconst 1, 1) := by decide +kernel
theorem dX6_isFound_9 : decode cX6_isFound 9 = .ok (.goto 4, 3) := by decide +kernel
theorem dX6_isFound_12 : decode cX6_isFound 12 = .ok (.iconst 0, 1) := by decide +kernel
theorem dX6_isFound_13 : decode cX6_isFound 13 = .ok (.ireturn, 1) := by decide +kernel
theorem dX6_heightAt_0 : decode cX6_heightAt 0 = .ok (.aload_n 0, 1) := by decide +kernel
theorem dX6_heightAt_1 : decode cX6_heightAt 1 = .ok (.invokevirtual 31, 3) := by decide +kernel
theorem dX6_heightAt_4 : decode cX6_heightAt 4 = .ok (.ifCond .eq 28, 3) := by decide +kernel
theorem dX6_heightAt_7 : decode cX6_heightAt 7 = .ok (.iload_n 1, 1) := by decide +kernel
theorem dX6_heightAt_8 : decode cX6_heightAt 8 = .ok (.aload_n 0, 1) := by decide +kernel
theorem dX6_heightAt_9 : decode cX6_heightAt 9 = .ok (.getfield 25, 3) := by decide +kernel
theorem dX6_heightAt_12 : decode cX6_heightAt 12 = .ok (.if_icmp .lt 20, 3) := by decide +kernel
theorem dX6_heightAt_15 : decode cX6_heightAt 15 = .ok (.iload_n 1, 1) := by decide +kernel
theorem dX6_heightAt_16 : decode cX6_heightAt 16 = .ok (.aload_n 0, 1) := by decide +kernel
theorem dX6_heightAt_17 : decode cX6_heightAt 17 = .ok (.getfield 28, 3) := by decide +kernel
theorem dX6_heightAt_20 : decode cX6_heightAt 20 = .ok (.if_icmp .gt 12, 3) := by decide +kernel
theorem dX6_heightAt_23 : decode cX6_heightAt 23 = .ok (.aload_n 0, 1) := by decide +kernel
theorem dX6_heightAt_24 : decode cX6_heightAt 24 = .ok (.getfield 18, 3) := by decide +kernel
theorem dX6_heightAt_27 : decode cX6_heightAt 27 = .ok (.iload_n 1, 1) := by decide +kernel
theorem dX6_heightAt_28 : decode cX6_heightAt 28 = .ok (.iaload, 1) := by decide +kernel
theorem dX6_heightAt_29 : decode cX6_heightAt 29 = .ok (.goto 4, 3) := by decide +kernel
theorem dX6_heightAt_32 : decode cX6_heightAt 32 = .ok (.iconst (-1), 1) := by decide +kernel
theorem dX6_heightAt_33 : decode cX6_heightAt 33 = .ok (.ireturn, 1) := by decide +kernel
theorem dX6_find_0 : decode cX6_find 0 = .ok (.bipush 23, 2) := by decide +kernel
theorem dX6_find_2 : decode cX6_find 2 = .ok (.istore_n 3, 1) := by decide +kernel
theorem dX6_find_3 : decode cX6_find 3 = .ok (.iload_n 3, 1) := by decide +kernel
theorem dX6_find_4 : decode cX6_find 4 = .ok (.ifCond .lt 58, 3) := by decide +kernel
theorem dX6_find_7 : decode cX6_find 7 = .ok (.aload_n 1, 1) := by decide +kernel
theorem dX6_find_8 : decode cX6_find 8 = .ok (.iload_n 2, 1) := by decide +kernel
theorem dX6_find_9 : decode cX6_find 9 = .ok (.iload_n 3, 1) := by decide +kernel
theorem dX6_find_10 : decode cX6_find 10 = .ok (.invokevirtual 35, 3) := by decide +kernel
theorem dX6_find_13 : decode cX6_find 13 = .ok (.ifCond .ne 7, 3) := by decide +kernel
theorem dX6_find_16 : decode cX6_find 16 = .ok (.iconst 1, 1) := by decide +kernel
theorem dX6_find_17 : decode cX6_find 17 = .ok (.goto 4, 3) := by decide +kernel
theorem dX6_find_20 : decode cX6_find 20 = .ok (.iconst 0, 1) := by decide +kernel
theorem dX6_find_21 : decode cX6_find 21 = .ok (.istore 4, 2) := by decide +kernel
theorem dX6_find_23 : decode cX6_find 23 = .ok (.iconst 0, 1) := by decide +kernel
theorem dX6_find_24 : decode cX6_find 24 = .ok (.istore 5, 2) := by decide +kernel
theorem dX6_find_26 : decode cX6_find 26 = .ok (.iload 5, 2) := by decide +kernel
theorem dX6_find_28 : decode cX6_find 28 = .ok (.bipush 32, 2) := by decide +kernel
theorem dX6_find_30 : decode cX6_find 30 = .ok (.if_icmp .ge 26, 3) := by decide +kernel
theorem dX6_find_33 : decode cX6_find 33 = .ok (.aload_n 0, 1) := by decide +kernel
theorem dX6_find_34 : decode cX6_find 34 = .ok (.iload_n 3, 1) := by decide +kernel
theorem dX6_find_35 : decode cX6_find 35 = .ok (.iload 5, 2) := by decide +kernel
theorem dX6_find_37 : decode cX6_find 37 = .ok (.iload 4, 2) := by decide +kernel
theorem dX6_find_39 : decode cX6_find 39 = .ok (.aload_n 1, 1) := by decide +kernel
theorem dX6_find_40 : decode cX6_find 40 = .ok (.iload_n 2, 1) := by decide +kernel
theorem dX6_find_41 : decode cX6_find 41 = .ok (.iload_n 3, 1) := by decide +kernel
theorem dX6_find_42 : decode cX6_find 42 = .ok (.iload 5, 2) := by decide +kernel
theorem dX6_find_44 : decode cX6_find 44 = .ok (.invokevirtual 41, 3) := by decide +kernel
theorem dX6_find_47 : decode cX6_find 47 = .ok (.invokevirtual 45, 3) := by decide +kernel
theorem dX6_find_50 : decode cX6_find 50 = .ok (.iinc 5 1, 3) := by decide +kernel
theorem dX6_find_53 : decode cX6_find 53 = .ok (.goto (-27), 3) := by decide +kernel
theorem dX6_find_56 : decode cX6_find 56 = .ok (.iinc 3 (-1), 3) := by decide +kernel
theorem dX6_find_59 : decode cX6_find 59 = .ok (.goto (-56), 3) := by decide +kernel
theorem dX6_find_62 : decode cX6_find 62 = .ok (.aload_n 0, 1) := by decide +kernel
theorem dX6_find_63 : decode cX6_find 63 = .ok (.aload_n 1, 1) := by decide +kernel
theorem dX6_find_64 : decode cX6_find 64 = .ok (.iload_n 2, 1) := by decide +kernel
theorem dX6_find_65 : decode cX6_find 65 = .ok (.invokevirtual 49, 3) := by decide +kernel
theorem dX6_find_68 : decode cX6_find 68 = .ok (.aload_n 0, 1) := by decide +kernel
theorem dX6_find_69 : decode cX6_find 69 = .ok (.getfield 25, 3) := by decide +kernel
theorem dX6_find_72 : decode cX6_find 72 = .ok (.istore_n 3, 1) := by decide +kernel
theorem dX6_find_73 : decode cX6_find 73 = .ok (.aload_n 0, 1) := by decide +kernel
theorem dX6_find_74 : decode cX6_find 74 = .ok (.invokevirtual 31, 3) := by decide +kernel
theorem dX6_find_77 : decode cX6_find 77 = .ok (.ifCond .eq 72, 3) := by decide +kernel
theorem dX6_find_80 : decode cX6_find 80 = .ok (.iload_n 3, 1) := by decide +kernel
theorem dX6_find_81 : decode cX6_find 81 = .ok (.aload_n 0, 1) := by decide +kernel
theorem dX6_find_82 : decode cX6_find 82 = .ok (.getfield 28, 3) := by decide +kernel
theorem dX6_find_85 : decode cX6_find 85 = .ok (.if_icmp .ge 64, 3) := by decide +kernel
theorem dX6_find_88 : decode cX6_find 88 = .ok (.aload_n 0, 1) := by decide +kernel
theorem dX6_find_89 : decode cX6_find 89 = .ok (.getfield 9, 3) := by decide +kernel
theorem dX6_find_92 : decode cX6_find 92 = .ok (.iload_n 3, 1) := by decide +kernel
theorem dX6_find_93 : decode cX6_find 93 = .ok (.aload_n 0, 1) := by decide +kernel
theorem dX6_find_94 : decode cX6_find 94 = .ok (.getfield 18, 3) := by decide +kernel
theorem dX6_find_97 : decode cX6_find 97 = .ok (.iload_n 3, 1) := by decide +kernel
theorem dX6_find_98 : decode cX6_find 98 = .ok (.iaload, 1) := by decide +kernel
theorem dX6_find_99 : decode cX6_find 99 = .ok (.invokestatic 53, 3) := by decide +kernel
theorem dX6_find_102 : decode cX6_find 102 = .ok (.iaload, 1) := by decide +kernel
theorem dX6_find_103 : decode cX6_find 103 = .ok (.iconst 1, 1) := by decide +kernel
theorem dX6_find_104 : decode cX6_find 104 = .ok (.iadd, 1) := by decide +kernel
theorem dX6_find_105 : decode cX6_find 105 = .ok (.aload_n 1, 1) := by decide +kernel
theorem dX6_find_106 : decode cX6_find 106 = .ok (.iload_n 2, 1) := by decide +kernel
theorem dX6_find_107 : decode cX6_find 107 = .ok (.iload_n 3, 1) := by decide +kernel
theorem dX6_find_108 : decode cX6_find 108 = .ok (.aload_n 0, 1) := by decide +kernel
theorem dX6_find_109 : decode cX6_find 109 = .ok (.getfield 18, 3) := by decide +kernel
theorem dX6_find_112 : decode cX6_find 112 = .ok (.iload_n 3, 1) := by decide +kernel
theorem dX6_find_113 : decode cX6_find 113 = .ok (.iaload, 1) := by decide +kernel
theorem dX6_find_114 : decode cX6_find 114 = .ok (.invokevirtual 41, 3) := by decide +kernel
theorem dX6_find_117 : decode cX6_find 117 = .ok (.isub, 1) := by decide +kernel
theorem dX6_find_118 : decode cX6_find 118 = .ok (.istore 4, 2) := by decide +kernel
theorem dX6_find_120 : decode cX6_find 120 = .ok (.aload_n 0, 1) := by decide +kernel
theorem dX6_find_121 : decode cX6_find 121 = .ok (.getfield 18, 3) := by decide +kernel
theorem dX6_find_124 : decode cX6_find 124 = .ok (.iload_n 3, 1) := by decide +kernel
theorem dX6_find_125 : decode cX6_find 125 = .ok (.iconst 1, 1) := by decide +kernel
theorem dX6_find_126 : decode cX6_find 126 = .ok (.iadd, 1) := by decide +kernel
theorem dX6_find_127 : decode cX6_find 127 = .ok (.aload_n 0, 1) := by decide +kernel
theorem dX6_find_128 : decode cX6_find 128 = .ok (.iload_n 3, 1) := by decide +kernel
theorem dX6_find_129 : decode cX6_find 129 = .ok (.iconst 1, 1) := by decide +kernel
theorem dX6_find_130 : decode cX6_find 130 = .ok (.iadd, 1) := by decide +kernel
theorem dX6_find_131 : decode cX6_find 131 = .ok (.aload_n 0, 1) := by decide +kernel
theorem dX6_find_132 : decode cX6_find 132 = .ok (.getfield 18, 3) := by decide +kernel
theorem dX6_find_135 : decode cX6_find 135 = .ok (.iload_n 3, 1) := by decide +kernel
theorem dX6_find_136 : decode cX6_find 136 = .ok (.iaload, 1) := by decide +kernel
theorem dX6_find_137 : decode cX6_find 137 = .ok (.iload 4, 2) := by decide +kernel
theorem dX6_find_139 : decode cX6_find 139 = .ok (.invokevirtual 57, 3) := by decide +kernel
theorem dX6_find_142 : decode cX6_find 142 = .ok (.iastore, 1) := by decide +kernel
theorem dX6_find_143 : decode cX6_find 143 = .ok (.iinc 3 1, 3) := by decide +kernel
theorem dX6_find_146 : decode cX6_find 146 = .ok (.goto (-73), 3) := by decide +kernel
theorem dX6_find_149 : decode cX6_find 149 = .ok (.return_, 1) := by decide +kernel
theorem dX6_placeOf_0 : decode cX6_placeOf 0 = .ok (.iload_n 0, 1) := by decide +kernel
theorem dX6_placeOf_1 : decode cX6_placeOf 1 = .ok (.bipush 32, 2) := by decide +kernel
theorem dX6_placeOf_3 : decode cX6_placeOf 3 = .ok (.imul, 1) := by decide +kernel
theorem dX6_placeOf_4 : decode cX6_placeOf 4 = .ok (.iload_n 1, 1) := by decide +kernel
theorem dX6_placeOf_5 : decode cX6_placeOf 5 = .ok (.iadd, 1) := by decide +kernel
theorem dX6_placeOf_6 : decode cX6_placeOf 6 = .ok (.ireturn, 1) := by decide +kernel
theorem dX6_lowest_0 : decode cX6_lowest 0 = .ok (.iconst 0, 1) := by decide +kernel
theorem dX6_lowest_1 : decode cX6_lowest 1 = .ok (.iload_n 0, 1) := by decide +kernel
theorem dX6_lowest_2 : decode cX6_lowest 2 = .ok (.iconst 3, 1) := by decide +kernel
theorem dX6_lowest_3 : decode cX6_lowest 3 = .ok (.isub, 1) := by decide +kernel
theorem dX6_lowest_4 : decode cX6_lowest 4 = .ok (.invokestatic 60, 3) := by decide +kernel
theorem dX6_lowest_7 : decode cX6_lowest 7 = .ok (.ireturn, 1) := by decide +kernel
theorem dX6_highest_0 : decode cX6_highest 0 = .ok (.bipush 31, 2) := by decide +kernel
theorem dX6_highest_2 : decode cX6_highest 2 = .ok (.iload_n 0, 1) := by decide +kernel
theorem dX6_highest_3 : decode cX6_highest 3 = .ok (.iconst 3, 1) := by decide +kernel
theorem dX6_highest_4 : decode cX6_highest 4 = .ok (.iadd, 1) := by decide +kernel
theorem dX6_highest_5 : decode cX6_highest 5 = .ok (.invokestatic 65, 3) := by decide +kernel
theorem dX6_highest_8 : decode cX6_highest 8 = .ok (.ireturn, 1) := by decide +kernel
theorem dX6_weigh_0 : decode cX6_weigh 0 = .ok (.iload_n 3, 1) := by decide +kernel
theorem dX6_weigh_1 : decode cX6_weigh 1 = .ok (.ifCond .eq 7, 3) := by decide +kernel
theorem dX6_weigh_4 : decode cX6_weigh 4 = .ok (.iconst 0, 1) := by decide +kernel
theorem dX6_weigh_5 : decode cX6_weigh 5 = .ok (.goto 5, 3) := by decide +kernel
theorem dX6_weigh_8 : decode cX6_weigh 8 = .ok (.ldc 68, 2) := by decide +kernel
theorem dX6_weigh_10 : decode cX6_weigh 10 = .ok (.istore 5, 2) := by decide +kernel
theorem dX6_weigh_12 : decode cX6_weigh 12 = .ok (.iload_n 1, 1) := by decide +kernel
theorem dX6_weigh_13 : decode cX6_weigh 13 = .ok (.istore 6, 2) := by decide +kernel
theorem dX6_weigh_15 : decode cX6_weigh 15 = .ok (.iload_n 1, 1) := by decide +kernel
theorem dX6_weigh_16 : decode cX6_weigh 16 = .ok (.iconst 1, 1) := by decide +kernel
theorem dX6_weigh_17 : decode cX6_weigh 17 = .ok (.iadd, 1) := by decide +kernel
theorem dX6_weigh_18 : decode cX6_weigh 18 = .ok (.bipush 24, 2) := by decide +kernel
theorem dX6_weigh_20 : decode cX6_weigh 20 = .ok (.if_icmp .ge 10, 3) := by decide +kernel
theorem dX6_weigh_23 : decode cX6_weigh 23 = .ok (.iload_n 2, 1) := by decide +kernel
theorem dX6_weigh_24 : decode cX6_weigh 24 = .ok (.invokestatic 69, 3) := by decide +kernel
theorem dX6_weigh_27 : decode cX6_weigh 27 = .ok (.goto 4, 3) := by decide +kernel
theorem dX6_weigh_30 : decode cX6_weigh 30 = .ok (.iconst (-1), 1) := by decide +kernel
theorem dX6_weigh_31 : decode cX6_weigh 31 = .ok (.istore 7, 2) := by decide +kernel
theorem dX6_weigh_33 : decode cX6_weigh 33 = .ok (.iload_n 2, 1) := by decide +kernel
theorem dX6_weigh_34 : decode cX6_weigh 34 = .ok (.invokestatic 73, 3) := by decide +kernel
theorem dX6_weigh_37 : decode cX6_weigh 37 = .ok (.istore 8, 2) := by decide +kernel
theorem dX6_weigh_39 : decode cX6_weigh 39 = .ok (.iload 8, 2) := by decide +kernel
theorem dX6_weigh_41 : decode cX6_weigh 41 = .ok (.iload 7, 2) := by decide +kernel
theorem dX6_weigh_43 : decode cX6_weigh 43 = .ok (.if_icmp .gt 87, 3) := by decide +kernel
theorem dX6_weigh_46 : decode cX6_weigh 46 = .ok (.iload_n 1, 1) := by decide +kernel
theorem dX6_weigh_47 : decode cX6_weigh 47 = .ok (.iconst 1, 1) := by decide +kernel
theorem dX6_weigh_48 : decode cX6_weigh 48 = .ok (.iadd, 1) := by decide +kernel
theorem dX6_weigh_49 : decode cX6_weigh 49 = .ok (.iload 8, 2) := by decide +kernel
theorem dX6_weigh_51 : decode cX6_weigh 51 = .ok (.invokestatic 53, 3) := by decide +kernel
theorem dX6_weigh_54 : decode cX6_weigh 54 = .ok (.istore 9, 2) := by decide +kernel
theorem dX6_weigh_56 : decode cX6_weigh 56 = .ok (.aload_n 0, 1) := by decide +kernel
theorem dX6_weigh_57 : decode cX6_weigh 57 = .ok (.getfield 9, 3) := by decide +kernel
theorem dX6_weigh_60 : decode cX6_weigh 60 = .ok (.iload 9, 2) := by decide +kernel
theorem dX6_weigh_62 : decode cX6_weigh 62 = .ok (.iaload, 1) := by decide +kernel
theorem dX6_weigh_63 : decode cX6_weigh 63 = .ok (.ldc 68, 2) := by decide +kernel
theorem dX6_weigh_65 : decode cX6_weigh 65 = .ok (.if_icmp .eq 59, 3) := by decide +kernel
theorem dX6_weigh_68 : decode cX6_weigh 68 = .ok (.aload_n 0, 1) := by decide +kernel
theorem dX6_weigh_69 : decode cX6_weigh 69 = .ok (.getfield 9, 3) := by decide +kernel
theorem dX6_weigh_72 : decode cX6_weigh 72 = .ok (.iload 9, 2) := by decide +kernel
theorem dX6_weigh_74 : decode cX6_weigh 74 = .ok (.iaload, 1) := by decide +kernel
theorem dX6_weigh_75 : decode cX6_weigh 75 = .ok (.iload 8, 2) := by decide +kernel
theorem dX6_weigh_77 : decode cX6_weigh 77 = .ok (.iload_n 2, 1) := by decide +kernel
theorem dX6_weigh_78 : decode cX6_weigh 78 = .ok (.isub, 1) := by decide +kernel
theorem dX6_weigh_79 : decode cX6_weigh 79 = .ok (.invokestatic 76, 3) := by decide +kernel
theorem dX6_weigh_82 : decode cX6_weigh 82 = .ok (.isub, 1) := by decide +kernel
theorem dX6_weigh_83 : decode cX6_weigh 83 = .ok (.istore 10, 2) := by decide +kernel
theorem dX6_weigh_85 : decode cX6_weigh 85 = .ok (.iload 10, 2) := by decide +kernel
theorem dX6_weigh_87 : decode cX6_weigh 87 = .ok (.iload 5, 2) := by decide +kernel
theorem dX6_weigh_89 : decode cX6_weigh 89 = .ok (.if_icmp .gt 22, 3) := by decide +kernel
theorem dX6_weigh_92 : decode cX6_weigh 92 = .ok (.iload 10, 2) := by decide +kernel
theorem dX6_weigh_94 : decode cX6_weigh 94 = .ok (.iload 5, 2) := by decide +kernel
theorem dX6_weigh_96 : decode cX6_weigh 96 = .ok (.if_icmp .ne 28, 3) := by decide +kernel
theorem dX6_weigh_99 : decode cX6_weigh 99 = .ok (.aload_n 0, 1) := by decide +kernel
theorem dX6_weigh_100 : decode cX6_weigh 100 = .ok (.getfield 15, 3) := by decide +kernel
theorem dX6_weigh_103 : decode cX6_weigh 103 = .ok (.iload 9, 2) := by decide +kernel
theorem dX6_weigh_105 : decode cX6_weigh 105 = .ok (.iaload, 1) := by decide +kernel
theorem dX6_weigh_106 : decode cX6_weigh 106 = .ok (.iload 6, 2) := by decide +kernel
theorem dX6_weigh_108 : decode cX6_weigh 108 = .ok (.if_icmp .ge 16, 3) := by decide +kernel
theorem dX6_weigh_111 : decode cX6_weigh 111 = .ok (.iload 10, 2) := by decide +kernel
theorem dX6_weigh_113 : decode cX6_weigh 113 = .ok (.istore 5, 2) := by decide +kernel
theorem dX6_weigh_115 : decode cX6_weigh 115 = .ok (.aload_n 0, 1) := by decide +kernel
theorem dX6_weigh_116 : decode cX6_weigh 116 = .ok (.getfield 15, 3) := by decide +kernel
theorem dX6_weigh_119 : decode cX6_weigh 119 = .ok (.iload 9, 2) := by decide +kernel
theorem dX6_weigh_121 : decode cX6_weigh 121 = .ok (.iaload, 1) := by decide +kernel
theorem dX6_weigh_122 : decode cX6_weigh 122 = .ok (.istore 6, 2) := by decide +kernel
theorem dX6_weigh_124 : decode cX6_weigh 124 = .ok (.iinc 8 1, 3) := by decide +kernel
theorem dX6_weigh_127 : decode cX6_weigh 127 = .ok (.goto (-88), 3) := by decide +kernel
theorem dX6_weigh_130 : decode cX6_weigh 130 = .ok (.iload_n 1, 1) := by decide +kernel
theorem dX6_weigh_131 : decode cX6_weigh 131 = .ok (.iload_n 2, 1) := by decide +kernel
theorem dX6_weigh_132 : decode cX6_weigh 132 = .ok (.invokestatic 53, 3) := by decide +kernel
theorem dX6_weigh_135 : decode cX6_weigh 135 = .ok (.istore 8, 2) := by decide +kernel
theorem dX6_weigh_137 : decode cX6_weigh 137 = .ok (.aload_n 0, 1) := by decide +kernel
theorem dX6_weigh_138 : decode cX6_weigh 138 = .ok (.getfield 9, 3) := by decide +kernel
theorem dX6_weigh_141 : decode cX6_weigh 141 = .ok (.iload 8, 2) := by decide +kernel
theorem dX6_weigh_143 : decode cX6_weigh 143 = .ok (.iload 5, 2) := by decide +kernel
theorem dX6_weigh_145 : decode cX6_weigh 145 = .ok (.ldc 68, 2) := by decide +kernel
theorem dX6_weigh_147 : decode cX6_weigh 147 = .ok (.if_icmp .ne 8, 3) := by decide +kernel
theorem dX6_weigh_150 : decode cX6_weigh 150 = .ok (.ldc 68, 2) := by decide +kernel
theorem dX6_weigh_152 : decode cX6_weigh 152 = .ok (.goto 10, 3) := by decide +kernel
theorem dX6_weigh_155 : decode cX6_weigh 155 = .ok (.iload 5, 2) := by decide +kernel
theorem dX6_weigh_157 : decode cX6_weigh 157 = .ok (.iload 4, 2) := by decide +kernel
theorem dX6_weigh_159 : decode cX6_weigh 159 = .ok (.iadd, 1) := by decide +kernel
theorem dX6_weigh_160 : decode cX6_weigh 160 = .ok (.iconst 1, 1) := by decide +kernel
theorem dX6_weigh_161 : decode cX6_weigh 161 = .ok (.isub, 1) := by decide +kernel
theorem dX6_weigh_162 : decode cX6_weigh 162 = .ok (.iastore, 1) := by decide +kernel
theorem dX6_weigh_163 : decode cX6_weigh 163 = .ok (.aload_n 0, 1) := by decide +kernel
theorem dX6_weigh_164 : decode cX6_weigh 164 = .ok (.getfield 15, 3) := by decide +kernel
theorem dX6_weigh_167 : decode cX6_weigh 167 = .ok (.iload 8, 2) := by decide +kernel
theorem dX6_weigh_169 : decode cX6_weigh 169 = .ok (.iload 6, 2) := by decide +kernel
theorem dX6_weigh_171 : decode cX6_weigh 171 = .ok (.iastore, 1) := by decide +kernel
theorem dX6_weigh_172 : decode cX6_weigh 172 = .ok (.return_, 1) := by decide +kernel
theorem dX6_chooseStart_0 : decode cX6_chooseStart 0 = .ok (.aload_n 0, 1) := by decide +kernel
theorem dX6_chooseStart_1 : decode cX6_chooseStart 1 = .ok (.iconst 0, 1) := by decide +kernel
theorem dX6_chooseStart_2 : decode cX6_chooseStart 2 = .ok (.putfield 21, 3) := by decide +kernel
theorem dX6_chooseStart_5 : decode cX6_chooseStart 5 = .ok (.aload_n 0, 1) := by decide +kernel
theorem dX6_chooseStart_6 : decode cX6_chooseStart 6 = .ok (.iconst (-1), 1) := by decide +kernel
theorem dX6_chooseStart_7 : decode cX6_chooseStart 7 = .ok (.putfield 25, 3) := by decide +kernel
theorem dX6_chooseStart_10 : decode cX6_chooseStart 10 = .ok (.aload_n 0, 1) := by decide +kernel
theorem dX6_chooseStart_11 : decode cX6_chooseStart 11 = .ok (.iconst (-1), 1) := by decide +kernel
theorem dX6_chooseStart_12 : decode cX6_chooseStart 12 = .ok (.putfield 28, 3) := by decide +kernel
theorem dX6_chooseStart_15 : decode cX6_chooseStart 15 = .ok (.iconst 0, 1) := by decide +kernel
theorem dX6_chooseStart_16 : decode cX6_chooseStart 16 = .ok (.istore_n 3, 1) := by decide +kernel
theorem dX6_chooseStart_17 : decode cX6_chooseStart 17 = .ok (.iload_n 3, 1) := by decide +kernel
theorem dX6_chooseStart_18 : decode cX6_chooseStart 18 = .ok (.bipush 24, 2) := by decide +kernel
theorem dX6_chooseStart_20 : decode cX6_chooseStart 20 = .ok (.if_icmp .ge 23, 3) := by decide +kernel
theorem dX6_chooseStart_23 : decode cX6_chooseStart 23 = .ok (.aload_n 1, 1) := by decide +kernel
theorem dX6_chooseStart_24 : decode cX6_chooseStart 24 = .ok (.iload_n 2, 1) := by decide +kernel
theorem dX6_chooseStart_25 : decode cX6_chooseStart 25 = .ok (.iload_n 3, 1) := by decide +kernel
theorem dX6_chooseStart_26 : decode cX6_chooseStart 26 = .ok (.invokevirtual 35, 3) := by decide +kernel
theorem dX6_chooseStart_29 : decode cX6_chooseStart 29 = .ok (.ifCond .ne 8, 3) := by decide +kernel
theorem dX6_chooseStart_32 : decode cX6_chooseStart 32 = .ok (.aload_n 0, 1) := by decide +kernel
theorem dX6_chooseStart_33 : decode cX6_chooseStart 33 = .ok (.iload_n 3, 1) := by decide +kernel
theorem dX6_chooseStart_34 : decode cX6_chooseStart 34 = .ok (.invokevirtual 79, 3) := by decide +kernel
theorem dX6_chooseStart_37 : decode cX6_chooseStart 37 = .ok (.iinc 3 1, 3) := by decide +kernel
theorem dX6_chooseStart_40 : decode cX6_chooseStart 40 = .ok (.goto (-23), 3) := by decide +kernel
theorem dX6_chooseStart_43 : decode cX6_chooseStart 43 = .ok (.return_, 1) := by decide +kernel
theorem dX6_tryStart_0 : decode cX6_tryStart 0 = .ok (.iconst 0, 1) := by decide +kernel
theorem dX6_tryStart_1 : decode cX6_tryStart 1 = .ok (.istore_n 2, 1) := by decide +kernel
theorem dX6_tryStart_2 : decode cX6_tryStart 2 = .ok (.iload_n 2, 1) := by decide +kernel
theorem dX6_tryStart_3 : decode cX6_tryStart 3 = .ok (.bipush 32, 2) := by decide +kernel
theorem dX6_tryStart_5 : decode cX6_tryStart 5 = .ok (.if_icmp .ge 106, 3) := by decide +kernel
theorem dX6_tryStart_8 : decode cX6_tryStart 8 = .ok (.iload_n 1, 1) := by decide +kernel
theorem dX6_tryStart_9 : decode cX6_tryStart 9 = .ok (.iload_n 2, 1) := by decide +kernel
theorem dX6_tryStart_10 : decode cX6_tryStart 10 = .ok (.invokestatic 53, 3) := by decide +kernel
theorem dX6_tryStart_13 : decode cX6_tryStart 13 = .ok (.istore_n 3, 1) := by decide +kernel
theorem dX6_tryStart_14 : decode cX6_tryStart 14 = .ok (.iload_n 1, 1) := by decide +kernel
theorem dX6_tryStart_15 : decode cX6_tryStart 15 = .ok (.aload_n 0, 1) := by decide +kernel
theorem dX6_tryStart_16 : decode cX6_tryStart 16 = .ok (.getfield 25, 3) := by decide +kernel
theorem dX6_tryStart_19 : decode cX6_tryStart 19 = .ok (.if_icmp .ne 33, 3) := by decide +kernel
theorem dX6_tryStart_22 : decode cX6_tryStart 22 = .ok (.aload_n 0, 1) := by decide +kernel
theorem dX6_tryStart_23 : decode cX6_tryStart 23 = .ok (.getfield 9, 3) := by decide +kernel
theorem dX6_tryStart_26 : decode cX6_tryStart 26 = .ok (.iload_n 3, 1) := by decide +kernel
theorem dX6_tryStart_27 : decode cX6_tryStart 27 = .ok (.iaload, 1) := by decide +kernel
theorem dX6_tryStart_28 : decode cX6_tryStart 28 = .ok (.aload_n 0, 1) := by decide +kernel
theorem dX6_tryStart_29 : decode cX6_tryStart 29 = .ok (.getfield 21, 3) := by decide +kernel
theorem dX6_tryStart_32 : decode cX6_tryStart 32 = .ok (.if_icmp .ne 20, 3) := by decide +kernel
theorem dX6_tryStart_35 : decode cX6_tryStart 35 = .ok (.aload_n 0, 1) := by decide +kernel
theorem dX6_tryStart_36 : decode cX6_tryStart 36 = .ok (.getfield 15, 3) := by decide +kernel
theorem dX6_tryStart_39 : decode cX6_tryStart 39 = .ok (.iload_n 3, 1) := by decide +kernel
theorem dX6_tryStart_40 : decode cX6_tryStart 40 = .ok (.iaload, 1) := by decide +kernel
theorem dX6_tryStart_41 : decode cX6_tryStart 41 = .ok (.aload_n 0, 1) := by decide +kernel
theorem dX6_tryStart_42 : decode cX6_tryStart 42 = .ok (.getfield 28, 3) := by decide +kernel
theorem dX6_tryStart_45 : decode cX6_tryStart 45 = .ok (.if_icmp .ge 7, 3) := by decide +kernel
theorem dX6_tryStart_48 : decode cX6_tryStart 48 = .ok (.iconst 1, 1) := by decide +kernel
theorem dX6_tryStart_49 : decode cX6_tryStart 49 = .ok (.goto 4, 3) := by decide +kernel
theorem dX6_tryStart_52 : decode cX6_tryStart 52 = .ok (.iconst 0, 1) := by decide +kernel
theorem dX6_tryStart_53 : decode cX6_tryStart 53 = .ok (.istore 4, 2) := by decide +kernel
theorem dX6_tryStart_55 : decode cX6_tryStart 55 = .ok (.aload_n 0, 1) := by decide +kernel
theorem dX6_tryStart_56 : decode cX6_tryStart 56 = .ok (.getfield 9, 3) := by decide +kernel
theorem dX6_tryStart_59 : decode cX6_tryStart 59 = .ok (.iload_n 3, 1) := by decide +kernel
theorem dX6_tryStart_60 : decode cX6_tryStart 60 = .ok (.iaload, 1) := by decide +kernel
theorem dX6_tryStart_61 : decode cX6_tryStart 61 = .ok (.aload_n 0, 1) := by decide +kernel
theorem dX6_tryStart_62 : decode cX6_tryStart 62 = .ok (.getfield 21, 3) := by decide +kernel
theorem dX6_tryStart_65 : decode cX6_tryStart 65 = .ok (.if_icmp .gt 8, 3) := by decide +kernel
theorem dX6_tryStart_68 : decode cX6_tryStart 68 = .ok (.iload 4, 2) := by decide +kernel
theorem dX6_tryStart_70 : decode cX6_tryStart 70 = .ok (.ifCond .eq 35, 3) := by decide +kernel
theorem dX6_tryStart_73 : decode cX6_tryStart 73 = .ok (.aload_n 0, 1) := by decide +kernel
theorem dX6_tryStart_74 : decode cX6_tryStart 74 = .ok (.aload_n 0, 1) := by decide +kernel
theorem dX6_tryStart_75 : decode cX6_tryStart 75 = .ok (.getfield 9, 3) := by decide +kernel
theorem dX6_tryStart_78 : decode cX6_tryStart 78 = .ok (.iload_n 3, 1) := by decide +kernel
theorem dX6_tryStart_79 : decode cX6_tryStart 79 = .ok (.iaload, 1) := by decide +kernel
theorem dX6_tryStart_80 : decode cX6_tryStart 80 = .ok (.putfield 21, 3) := by decide +kernel
theorem dX6_tryStart_83 : decode cX6_tryStart 83 = .ok (.aload_n 0, 1) := by decide +kernel
theorem dX6_tryStart_84 : decode cX6_tryStart 84 = .ok (.iload_n 1, 1) := by decide +kernel
theorem dX6_tryStart_85 : decode cX6_tryStart 85 = .ok (.putfield 25, 3) := by decide +kernel
theorem dX6_tryStart_88 : decode cX6_tryStart 88 = .ok (.aload_n 0, 1) := by decide +kernel
theorem dX6_tryStart_89 : decode cX6_tryStart 89 = .ok (.aload_n 0, 1) := by decide +kernel
theorem dX6_tryStart_90 : decode cX6_tryStart 90 = .ok (.getfield 15, 3) := by decide +kernel
theorem dX6_tryStart_93 : decode cX6_tryStart 93 = .ok (.iload_n 3, 1) := by decide +kernel
theorem dX6_tryStart_94 : decode cX6_tryStart 94 = .ok (.iaload, 1) := by decide +kernel
theorem dX6_tryStart_95 : decode cX6_tryStart 95 = .ok (.putfield 28, 3) := by decide +kernel
theorem dX6_tryStart_98 : decode cX6_tryStart 98 = .ok (.aload_n 0, 1) := by decide +kernel
theorem dX6_tryStart_99 : decode cX6_tryStart 99 = .ok (.getfield 18, 3) := by decide +kernel
theorem dX6_tryStart_102 : decode cX6_tryStart 102 = .ok (.iload_n 1, 1) := by decide +kernel
theorem dX6_tryStart_103 : decode cX6_tryStart 103 = .ok (.iload_n 2, 1) := by decide +kernel
theorem dX6_tryStart_104 : decode cX6_tryStart 104 = .ok (.iastore, 1) := by decide +kernel
theorem dX6_tryStart_105 : decode cX6_tryStart 105 = .ok (.iinc 2 1, 3) := by decide +kernel
theorem dX6_tryStart_108 : decode cX6_tryStart 108 = .ok (.goto (-106), 3) := by decide +kernel
theorem dX6_tryStart_111 : decode cX6_tryStart 111 = .ok (.return_, 1) := by decide +kernel
theorem dX6_nextHeight_0 : decode cX6_nextHeight 0 = .ok (.iload_n 2, 1) := by decide +kernel
theorem dX6_nextHeight_1 : decode cX6_nextHeight 1 = .ok (.invokestatic 69, 3) := by decide +kernel
theorem dX6_nextHeight_4 : decode cX6_nextHeight 4 = .ok (.istore 4, 2) := by decide +kernel
theorem dX6_nextHeight_6 : decode cX6_nextHeight 6 = .ok (.iload_n 2, 1) := by decide +kernel
theorem dX6_nextHeight_7 : decode cX6_nextHeight 7 = .ok (.invokestatic 73, 3) := by decide +kernel
theorem dX6_nextHeight_10 : decode cX6_nextHeight 10 = .ok (.istore 5, 2) := by decide +kernel
theorem dX6_nextHeight_12 : decode cX6_nextHeight 12 = .ok (.iload 5, 2) := by decide +kernel
theorem dX6_nextHeight_14 : decode cX6_nextHeight 14 = .ok (.iload 4, 2) := by decide +kernel
