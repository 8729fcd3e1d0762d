theorem dX6_nextHeight_16 : decode cX6_nextHeight 16 = .ok (.if_icmp .gt 53, 3) := by decide +kernel
theorem dX6_nextHeight_19 : decode cX6_nextHeight 19 = .ok (.iload_n 1, 1) := by decide +kernel
theorem dX6_nextHeight_20 : decode cX6_nextHeight 20 = .ok (.iload 5, 2) := by decide +kernel
theorem dX6_nextHeight_22 : decode cX6_nextHeight 22 = .ok (.invokestatic 53, 3) := by decide +kernel
theorem dX6_nextHeight_25 : decode cX6_nextHeight 25 = .ok (.istore 6, 2) := by decide +kernel
theorem dX6_nextHeight_27 : decode cX6_nextHeight 27 = .ok (.aload_n 0, 1) := by decide +kernel
theorem dX6_nextHeight_28 : decode cX6_nextHeight 28 = .ok (.getfield 9, 3) := by decide +kernel
theorem dX6_nextHeight_31 : decode cX6_nextHeight 31 = .ok (.iload 6, 2) := by decide +kernel
theorem dX6_nextHeight_33 : decode cX6_nextHeight 33 = .ok (.iaload, 1) := by decide +kernel
theorem dX6_nextHeight_34 : decode cX6_nextHeight 34 = .ok (.iload 5, 2) := by decide +kernel
theorem dX6_nextHeight_36 : decode cX6_nextHeight 36 = .ok (.iload_n 2, 1) := by decide +kernel
theorem dX6_nextHeight_37 : decode cX6_nextHeight 37 = .ok (.isub, 1) := by decide +kernel
theorem dX6_nextHeight_38 : decode cX6_nextHeight 38 = .ok (.invokestatic 76, 3) := by decide +kernel
theorem dX6_nextHeight_41 : decode cX6_nextHeight 41 = .ok (.isub, 1) := by decide +kernel
theorem dX6_nextHeight_42 : decode cX6_nextHeight 42 = .ok (.iload_n 3, 1) := by decide +kernel
theorem dX6_nextHeight_43 : decode cX6_nextHeight 43 = .ok (.if_icmp .ne 20, 3) := by decide +kernel
theorem dX6_nextHeight_46 : decode cX6_nextHeight 46 = .ok (.aload_n 0, 1) := by decide +kernel
theorem dX6_nextHeight_47 : decode cX6_nextHeight 47 = .ok (.getfield 15, 3) := by decide +kernel
theorem dX6_nextHeight_50 : decode cX6_nextHeight 50 = .ok (.iload 6, 2) := by decide +kernel
theorem dX6_nextHeight_52 : decode cX6_nextHeight 52 = .ok (.iaload, 1) := by decide +kernel
theorem dX6_nextHeight_53 : decode cX6_nextHeight 53 = .ok (.aload_n 0, 1) := by decide +kernel
theorem dX6_nextHeight_54 : decode cX6_nextHeight 54 = .ok (.getfield 28, 3) := by decide +kernel
theorem dX6_nextHeight_57 : decode cX6_nextHeight 57 = .ok (.if_icmp .ne 6, 3) := by decide +kernel
theorem dX6_nextHeight_60 : decode cX6_nextHeight 60 = .ok (.iload 5, 2) := by decide +kernel
theorem dX6_nextHeight_62 : decode cX6_nextHeight 62 = .ok (.ireturn, 1) := by decide +kernel
theorem dX6_nextHeight_63 : decode cX6_nextHeight 63 = .ok (.iinc 5 1, 3) := by decide +kernel
theorem dX6_nextHeight_66 : decode cX6_nextHeight 66 = .ok (.goto (-54), 3) := by decide +kernel
theorem dX6_nextHeight_69 : decode cX6_nextHeight 69 = .ok (.iload_n 2, 1) := by decide +kernel
theorem dX6_nextHeight_70 : decode cX6_nextHeight 70 = .ok (.ireturn, 1) := by decide +kernel
theorem dX7_init_0 : decode cX7_init 0 = .ok (.aload_n 0, 1) := by decide +kernel
theorem dX7_init_1 : decode cX7_init 1 = .ok (.invokespecial 3, 3) := by decide +kernel
theorem dX7_init_4 : decode cX7_init 4 = .ok (.aload_n 0, 1) := by decide +kernel
theorem dX7_init_5 : decode cX7_init 5 = .ok (.bipush 24, 2) := by decide +kernel
theorem dX7_init_7 : decode cX7_init 7 = .ok (.newarray .int, 2) := by decide +kernel
theorem dX7_init_9 : decode cX7_init 9 = .ok (.putfield 9, 3) := by decide +kernel
theorem dX7_init_12 : decode cX7_init 12 = .ok (.aload_n 0, 1) := by decide +kernel
theorem dX7_init_13 : decode cX7_init 13 = .ok (.iconst 0, 1) := by decide +kernel
theorem dX7_init_14 : decode cX7_init 14 = .ok (.putfield 15, 3) := by decide +kernel
theorem dX7_init_17 : decode cX7_init 17 = .ok (.return_, 1) := by decide +kernel
theorem dX7_weight_0 : decode cX7_weight 0 = .ok (.bipush 100, 2) := by decide +kernel
theorem dX7_weight_2 : decode cX7_weight 2 = .ok (.bipush 100, 2) := by decide +kernel
theorem dX7_weight_4 : decode cX7_weight 4 = .ok (.iload_n 0, 1) := by decide +kernel
theorem dX7_weight_5 : decode cX7_weight 5 = .ok (.imul, 1) := by decide +kernel
theorem dX7_weight_6 : decode cX7_weight 6 = .ok (.iload_n 1, 1) := by decide +kernel
theorem dX7_weight_7 : decode cX7_weight 7 = .ok (.iconst 1, 1) := by decide +kernel
theorem dX7_weight_8 : decode cX7_weight 8 = .ok (.iadd, 1) := by decide +kernel
theorem dX7_weight_9 : decode cX7_weight 9 = .ok (.idiv, 1) := by decide +kernel
theorem dX7_weight_10 : decode cX7_weight 10 = .ok (.iadd, 1) := by decide +kernel
theorem dX7_weight_11 : decode cX7_weight 11 = .ok (.ireturn, 1) := by decide +kernel
theorem dX7_undo_0 : decode cX7_undo 0 = .ok (.aload_n 0, 1) := by decide +kernel
theorem dX7_undo_1 : decode cX7_undo 1 = .ok (.iconst 0, 1) := by decide +kernel
theorem dX7_undo_2 : decode cX7_undo 2 = .ok (.putfield 15, 3) := by decide +kernel
theorem dX7_undo_5 : decode cX7_undo 5 = .ok (.aload_n 1, 1) := by decide +kernel
theorem dX7_undo_6 : decode cX7_undo 6 = .ok (.invokevirtual 19, 3) := by decide +kernel
theorem dX7_undo_9 : decode cX7_undo 9 = .ok (.ifCond .eq 17, 3) := by decide +kernel
theorem dX7_undo_12 : decode cX7_undo 12 = .ok (.aload_n 1, 1) := by decide +kernel
theorem dX7_undo_13 : decode cX7_undo 13 = .ok (.getfield 25, 3) := by decide +kernel
theorem dX7_undo_16 : decode cX7_undo 16 = .ok (.aload_n 1, 1) := by decide +kernel
theorem dX7_undo_17 : decode cX7_undo 17 = .ok (.getfield 28, 3) := by decide +kernel
theorem dX7_undo_20 : decode cX7_undo 20 = .ok (.isub, 1) := by decide +kernel
theorem dX7_undo_21 : decode cX7_undo 21 = .ok (.iconst 1, 1) := by decide +kernel
theorem dX7_undo_22 : decode cX7_undo 22 = .ok (.iadd, 1) := by decide +kernel
theorem dX7_undo_23 : decode cX7_undo 23 = .ok (.goto 4, 3) := by decide +kernel
theorem dX7_undo_26 : decode cX7_undo 26 = .ok (.iconst 0, 1) := by decide +kernel
theorem dX7_undo_27 : decode cX7_undo 27 = .ok (.istore_n 2, 1) := by decide +kernel
theorem dX7_undo_28 : decode cX7_undo 28 = .ok (.iconst 0, 1) := by decide +kernel
theorem dX7_undo_29 : decode cX7_undo 29 = .ok (.istore_n 3, 1) := by decide +kernel
theorem dX7_undo_30 : decode cX7_undo 30 = .ok (.iload_n 3, 1) := by decide +kernel
theorem dX7_undo_31 : decode cX7_undo 31 = .ok (.iload_n 2, 1) := by decide +kernel
theorem dX7_undo_32 : decode cX7_undo 32 = .ok (.if_icmp .ge 64, 3) := by decide +kernel
theorem dX7_undo_35 : decode cX7_undo 35 = .ok (.ldc 31, 2) := by decide +kernel
theorem dX7_undo_37 : decode cX7_undo 37 = .ok (.aload_n 1, 1) := by decide +kernel
theorem dX7_undo_38 : decode cX7_undo 38 = .ok (.aload_n 1, 1) := by decide +kernel
theorem dX7_undo_39 : decode cX7_undo 39 = .ok (.getfield 28, 3) := by decide +kernel
theorem dX7_undo_42 : decode cX7_undo 42 = .ok (.iload_n 3, 1) := by decide +kernel
theorem dX7_undo_43 : decode cX7_undo 43 = .ok (.iadd, 1) := by decide +kernel
theorem dX7_undo_44 : decode cX7_undo 44 = .ok (.invokevirtual 32, 3) := by decide +kernel
theorem dX7_undo_47 : decode cX7_undo 47 = .ok (.iconst 1, 1) := by decide +kernel
theorem dX7_undo_48 : decode cX7_undo 48 = .ok (.iadd, 1) := by decide +kernel
theorem dX7_undo_49 : decode cX7_undo 49 = .ok (.imul, 1) := by decide +kernel
theorem dX7_undo_50 : decode cX7_undo 50 = .ok (.aload_n 0, 1) := by decide +kernel
theorem dX7_undo_51 : decode cX7_undo 51 = .ok (.iload_n 3, 1) := by decide +kernel
theorem dX7_undo_52 : decode cX7_undo 52 = .ok (.iload_n 3, 1) := by decide +kernel
theorem dX7_undo_53 : decode cX7_undo 53 = .ok (.invokevirtual 36, 3) := by decide +kernel
theorem dX7_undo_56 : decode cX7_undo 56 = .ok (.isub, 1) := by decide +kernel
theorem dX7_undo_57 : decode cX7_undo 57 = .ok (.istore 4, 2) := by decide +kernel
theorem dX7_undo_59 : decode cX7_undo 59 = .ok (.iload 4, 2) := by decide +kernel
theorem dX7_undo_61 : decode cX7_undo 61 = .ok (.iload_n 3, 1) := by decide +kernel
theorem dX7_undo_62 : decode cX7_undo 62 = .ok (.iload_n 3, 1) := by decide +kernel
theorem dX7_undo_63 : decode cX7_undo 63 = .ok (.invokestatic 40, 3) := by decide +kernel
theorem dX7_undo_66 : decode cX7_undo 66 = .ok (.idiv, 1) := by decide +kernel
theorem dX7_undo_67 : decode cX7_undo 67 = .ok (.istore 5, 2) := by decide +kernel
theorem dX7_undo_69 : decode cX7_undo 69 = .ok (.iload 5, 2) := by decide +kernel
theorem dX7_undo_71 : decode cX7_undo 71 = .ok (.ifCond .gt 4, 3) := by decide +kernel
theorem dX7_undo_74 : decode cX7_undo 74 = .ok (.return_, 1) := by decide +kernel
theorem dX7_undo_75 : decode cX7_undo 75 = .ok (.aload_n 0, 1) := by decide +kernel
theorem dX7_undo_76 : decode cX7_undo 76 = .ok (.getfield 9, 3) := by decide +kernel
theorem dX7_undo_79 : decode cX7_undo 79 = .ok (.iload_n 3, 1) := by decide +kernel
theorem dX7_undo_80 : decode cX7_undo 80 = .ok (.iload 5, 2) := by decide +kernel
theorem dX7_undo_82 : decode cX7_undo 82 = .ok (.iastore, 1) := by decide +kernel
theorem dX7_undo_83 : decode cX7_undo 83 = .ok (.aload_n 0, 1) := by decide +kernel
theorem dX7_undo_84 : decode cX7_undo 84 = .ok (.iload_n 3, 1) := by decide +kernel
theorem dX7_undo_85 : decode cX7_undo 85 = .ok (.iconst 1, 1) := by decide +kernel
theorem dX7_undo_86 : decode cX7_undo 86 = .ok (.iadd, 1) := by decide +kernel
theorem dX7_undo_87 : decode cX7_undo 87 = .ok (.putfield 15, 3) := by decide +kernel
theorem dX7_undo_90 : decode cX7_undo 90 = .ok (.iinc 3 1, 3) := by decide +kernel
theorem dX7_undo_93 : decode cX7_undo 93 = .ok (.goto (-63), 3) := by decide +kernel
theorem dX7_undo_96 : decode cX7_undo 96 = .ok (.return_, 1) := by decide +kernel
theorem dX7_weighed_0 : decode cX7_weighed 0 = .ok (.iconst 0, 1) := by decide +kernel
theorem dX7_weighed_1 : decode cX7_weighed 1 = .ok (.istore_n 3, 1) := by decide +kernel
theorem dX7_weighed_2 : decode cX7_weighed 2 = .ok (.iconst 0, 1) := by decide +kernel
theorem dX7_weighed_3 : decode cX7_weighed 3 = .ok (.istore 4, 2) := by decide +kernel
theorem dX7_weighed_5 : decode cX7_weighed 5 = .ok (.iload 4, 2) := by decide +kernel
theorem dX7_weighed_7 : decode cX7_weighed 7 = .ok (.iload_n 1, 1) := by decide +kernel
theorem dX7_weighed_8 : decode cX7_weighed 8 = .ok (.if_icmp .ge 26, 3) := by decide +kernel
theorem dX7_weighed_11 : decode cX7_weighed 11 = .ok (.iload_n 3, 1) := by decide +kernel
theorem dX7_weighed_12 : decode cX7_weighed 12 = .ok (.iload 4, 2) := by decide +kernel
theorem dX7_weighed_14 : decode cX7_weighed 14 = .ok (.iload_n 2, 1) := by decide +kernel
theorem dX7_weighed_15 : decode cX7_weighed 15 = .ok (.invokestatic 40, 3) := by decide +kernel
theorem dX7_weighed_18 : decode cX7_weighed 18 = .ok (.aload_n 0, 1) := by decide +kernel
theorem dX7_weighed_19 : decode cX7_weighed 19 = .ok (.getfield 9, 3) := by decide +kernel
theorem dX7_weighed_22 : decode cX7_weighed 22 = .ok (.iload 4, 2) := by decide +kernel
theorem dX7_weighed_24 : decode cX7_weighed 24 = .ok (.iaload, 1) := by decide +kernel
theorem dX7_weighed_25 : decode cX7_weighed 25 = .ok (.imul, 1) := by decide +kernel
theorem dX7_weighed_26 : decode cX7_weighed 26 = .ok (.iadd, 1) := by decide +kernel
theorem dX7_weighed_27 : decode cX7_weighed 27 = .ok (.istore_n 3, 1) := by decide +kernel
theorem dX7_weighed_28 : decode cX7_weighed 28 = .ok (.iinc 4 1, 3) := by decide +kernel
theorem dX7_weighed_31 : decode cX7_weighed 31 = .ok (.goto (-26), 3) := by decide +kernel
theorem dX7_weighed_34 : decode cX7_weighed 34 = .ok (.iload_n 3, 1) := by decide +kernel
theorem dX7_weighed_35 : decode cX7_weighed 35 = .ok (.ireturn, 1) := by decide +kernel
theorem dX7_stepAt_0 : decode cX7_stepAt 0 = .ok (.aload_n 0, 1) := by decide +kernel
theorem dX7_stepAt_1 : decode cX7_stepAt 1 = .ok (.getfield 9, 3) := by decide +kernel
theorem dX7_stepAt_4 : decode cX7_stepAt 4 = .ok (.iload_n 1, 1) := by decide +kernel
theorem dX7_stepAt_5 : decode cX7_stepAt 5 = .ok (.iaload, 1) := by decide +kernel
theorem dX7_stepAt_6 : decode cX7_stepAt 6 = .ok (.ireturn, 1) := by decide +kernel
theorem dX7_trueHeightAt_0 : decode cX7_trueHeightAt 0 = .ok (.iconst 0, 1) := by decide +kernel
theorem dX7_trueHeightAt_1 : decode cX7_trueHeightAt 1 = .ok (.istore_n 2, 1) := by decide +kernel
theorem dX7_trueHeightAt_2 : decode cX7_trueHeightAt 2 = .ok (.iconst 0, 1) := by decide +kernel
theorem dX7_trueHeightAt_3 : decode cX7_trueHeightAt 3 = .ok (.istore_n 3, 1) := by decide +kernel
theorem dX7_trueHeightAt_4 : decode cX7_trueHeightAt 4 = .ok (.iload_n 3, 1) := by decide +kernel
theorem dX7_trueHeightAt_5 : decode cX7_trueHeightAt 5 = .ok (.iload_n 1, 1) := by decide +kernel
theorem dX7_trueHeightAt_6 : decode cX7_trueHeightAt 6 = .ok (.if_icmp .gt 18, 3) := by decide +kernel
theorem dX7_trueHeightAt_9 : decode cX7_trueHeightAt 9 = .ok (.iload_n 2, 1) := by decide +kernel
theorem dX7_trueHeightAt_10 : decode cX7_trueHeightAt 10 = .ok (.aload_n 0, 1) := by decide +kernel
theorem dX7_trueHeightAt_11 : decode cX7_trueHeightAt 11 = .ok (.getfield 9, 3) := by decide +kernel
theorem dX7_trueHeightAt_14 : decode cX7_trueHeightAt 14 = .ok (.iload_n 3, 1) := by decide +kernel
theorem dX7_trueHeightAt_15 : decode cX7_trueHeightAt 15 = .ok (.iaload, 1) := by decide +kernel
theorem dX7_trueHeightAt_16 : decode cX7_trueHeightAt 16 = .ok (.iadd, 1) := by decide +kernel
theorem dX7_trueHeightAt_17 : decode cX7_trueHeightAt 17 = .ok (.istore_n 2, 1) := by decide +kernel
theorem dX7_trueHeightAt_18 : decode cX7_trueHeightAt 18 = .ok (.iinc 3 1, 3) := by decide +kernel
theorem dX7_trueHeightAt_21 : decode cX7_trueHeightAt 21 = .ok (.goto (-17), 3) := by decide +kernel
theorem dX7_trueHeightAt_24 : decode cX7_trueHeightAt 24 = .ok (.iload_n 2, 1) := by decide +kernel
theorem dX7_trueHeightAt_25 : decode cX7_trueHeightAt 25 = .ok (.ireturn, 1) := by decide +kernel
theorem dX7_madeAgain_0 : decode cX7_madeAgain 0 = .ok (.aload_n 0, 1) := by decide +kernel
theorem dX7_madeAgain_1 : decode cX7_madeAgain 1 = .ok (.iload_n 1, 1) := by decide +kernel
theorem dX7_madeAgain_2 : decode cX7_madeAgain 2 = .ok (.iconst 1, 1) := by decide +kernel
theorem dX7_madeAgain_3 : decode cX7_madeAgain 3 = .ok (.iadd, 1) := by decide +kernel
theorem dX7_madeAgain_4 : decode cX7_madeAgain 4 = .ok (.iload_n 1, 1) := by decide +kernel
theorem dX7_madeAgain_5 : decode cX7_madeAgain 5 = .ok (.invokevirtual 36, 3) := by decide +kernel
theorem dX7_madeAgain_8 : decode cX7_madeAgain 8 = .ok (.ldc 31, 2) := by decide +kernel
theorem dX7_madeAgain_10 : decode cX7_madeAgain 10 = .ok (.idiv, 1) := by decide +kernel
theorem dX7_madeAgain_11 : decode cX7_madeAgain 11 = .ok (.iconst 1, 1) := by decide +kernel
theorem dX7_madeAgain_12 : decode cX7_madeAgain 12 = .ok (.isub, 1) := by decide +kernel
theorem dX7_madeAgain_13 : decode cX7_madeAgain 13 = .ok (.ireturn, 1) := by decide +kernel
theorem dX8_init_0 : decode cX8_init 0 = .ok (.aload_n 0, 1) := by decide +kernel
theorem dX8_init_1 : decode cX8_init 1 = .ok (.invokespecial 1, 3) := by decide +kernel
theorem dX8_init_4 : decode cX8_init 4 = .ok (.aload_n 0, 1) := by decide +kernel
theorem dX8_init_5 : decode cX8_init 5 = .ok (.new 7, 3) := by decide +kernel
theorem dX8_init_8 : decode cX8_init 8 = .ok (.dup, 1) := by decide +kernel
theorem dX8_init_9 : decode cX8_init 9 = .ok (.invokespecial 9, 3) := by decide +kernel
theorem dX8_init_12 : decode cX8_init 12 = .ok (.putfield 10, 3) := by decide +kernel
theorem dX8_init_15 : decode cX8_init 15 = .ok (.aload_n 0, 1) := by decide +kernel
theorem dX8_init_16 : decode cX8_init 16 = .ok (.iconst 3, 1) := by decide +kernel
theorem dX8_init_17 : decode cX8_init 17 = .ok (.anewarray 7, 3) := by decide +kernel
theorem dX8_init_20 : decode cX8_init 20 = .ok (.putfield 16, 3) := by decide +kernel
theorem dX8_init_23 : decode cX8_init 23 = .ok (.aload_n 0, 1) := by decide +kernel
theorem dX8_init_24 : decode cX8_init 24 = .ok (.new 20, 3) := by decide +kernel
theorem dX8_init_27 : decode cX8_init 27 = .ok (.dup, 1) := by decide +kernel
theorem dX8_init_28 : decode cX8_init 28 = .ok (.invokespecial 22, 3) := by decide +kernel
theorem dX8_init_31 : decode cX8_init 31 = .ok (.putfield 23, 3) := by decide +kernel
theorem dX8_init_34 : decode cX8_init 34 = .ok (.aload_n 0, 1) := by decide +kernel
theorem dX8_init_35 : decode cX8_init 35 = .ok (.new 27, 3) := by decide +kernel
theorem dX8_init_38 : decode cX8_init 38 = .ok (.dup, 1) := by decide +kernel
theorem dX8_init_39 : decode cX8_init 39 = .ok (.invokespecial 29, 3) := by decide +kernel
theorem dX8_init_42 : decode cX8_init 42 = .ok (.putfield 30, 3) := by decide +kernel
theorem dX8_init_45 : decode cX8_init 45 = .ok (.aload_n 0, 1) := by decide +kernel
theorem dX8_init_46 : decode cX8_init 46 = .ok (.new 34, 3) := by decide +kernel
theorem dX8_init_49 : decode cX8_init 49 = .ok (.dup, 1) := by decide +kernel
theorem dX8_init_50 : decode cX8_init 50 = .ok (.invokespecial 36, 3) := by decide +kernel
theorem dX8_init_53 : decode cX8_init 53 = .ok (.putfield 37, 3) := by decide +kernel
theorem dX8_init_56 : decode cX8_init 56 = .ok (.aload_n 0, 1) := by decide +kernel
theorem dX8_init_57 : decode cX8_init 57 = .ok (.iconst (-1), 1) := by decide +kernel
theorem dX8_init_58 : decode cX8_init 58 = .ok (.putfield 41, 3) := by decide +kernel
theorem dX8_init_61 : decode cX8_init 61 = .ok (.return_, 1) := by decide +kernel
theorem dX8_board_0 : decode cX8_board 0 = .ok (.iload_n 1, 1) := by decide +kernel
theorem dX8_board_1 : decode cX8_board 1 = .ok (.iload_n 2, 1) := by decide +kernel
theorem dX8_board_2 : decode cX8_board 2 = .ok (.invokestatic 45, 3) := by decide +kernel
theorem dX8_board_5 : decode cX8_board 5 = .ok (.ifCond .eq 20, 3) := by decide +kernel
theorem dX8_board_8 : decode cX8_board 8 = .ok (.iload_n 3, 1) := by decide +kernel
theorem dX8_board_9 : decode cX8_board 9 = .ok (.iconst 0, 1) := by decide +kernel
theorem dX8_board_10 : decode cX8_board 10 = .ok (.iconst 3, 1) := by decide +kernel
theorem dX8_board_11 : decode cX8_board 11 = .ok (.invokestatic 49, 3) := by decide +kernel
theorem dX8_board_14 : decode cX8_board 14 = .ok (.ifCond .eq 11, 3) := by decide +kernel
theorem dX8_board_17 : decode cX8_board 17 = .ok (.iload 4, 2) := by decide +kernel
theorem dX8_board_19 : decode cX8_board 19 = .ok (.invokestatic 53, 3) := by decide +kernel
theorem dX8_board_22 : decode cX8_board 22 = .ok (.ifCond .ne 5, 3) := by decide +kernel
theorem dX8_board_25 : decode cX8_board 25 = .ok (.iconst 0, 1) := by decide +kernel
theorem dX8_board_26 : decode cX8_board 26 = .ok (.ireturn, 1) := by decide +kernel
theorem dX8_board_27 : decode cX8_board 27 = .ok (.aload_n 0, 1) := by decide +kernel
theorem dX8_board_28 : decode cX8_board 28 = .ok (.getfield 10, 3) := by decide +kernel
theorem dX8_board_31 : decode cX8_board 31 = .ok (.getfield 59, 3) := by decide +kernel
theorem dX8_board_34 : decode cX8_board 34 = .ok (.iload_n 1, 1) := by decide +kernel
theorem dX8_board_35 : decode cX8_board 35 = .ok (.iload_n 2, 1) := by decide +kernel
theorem dX8_board_36 : decode cX8_board 36 = .ok (.iload_n 3, 1) := by decide +kernel
theorem dX8_board_37 : decode cX8_board 37 = .ok (.iload 4, 2) := by decide +kernel
theorem dX8_board_39 : decode cX8_board 39 = .ok (.invokevirtual 63, 3) := by decide +kernel
theorem dX8_board_42 : decode cX8_board 42 = .ok (.aload_n 0, 1) := by decide +kernel
theorem dX8_board_43 : decode cX8_board 43 = .ok (.invokevirtual 67, 3) := by decide +kernel
theorem dX8_board_46 : decode cX8_board 46 = .ok (.iconst 1, 1) := by decide +kernel
theorem dX8_board_47 : decode cX8_board 47 = .ok (.ireturn, 1) := by decide +kernel
theorem dX8_echo_0 : decode cX8_echo 0 = .ok (.iload_n 1, 1) := by decide +kernel
theorem dX8_echo_1 : decode cX8_echo 1 = .ok (.iload_n 2, 1) := by decide +kernel
theorem dX8_echo_2 : decode cX8_echo 2 = .ok (.iload_n 3, 1) := by decide +kernel
theorem dX8_echo_3 : decode cX8_echo 3 = .ok (.invokestatic 70, 3) := by decide +kernel
theorem dX8_echo_6 : decode cX8_echo 6 = .ok (.ifCond .eq 14, 3) := by decide +kernel
theorem dX8_echo_9 : decode cX8_echo 9 = .ok (.iload 4, 2) := by decide +kernel
theorem dX8_echo_11 : decode cX8_echo 11 = .ok (.iconst 0, 1) := by decide +kernel
theorem dX8_echo_12 : decode cX8_echo 12 = .ok (.bipush 9, 2) := by decide +kernel
theorem dX8_echo_14 : decode cX8_echo 14 = .ok (.invokestatic 49, 3) := by decide +kernel
theorem dX8_echo_17 : decode cX8_echo 17 = .ok (.ifCond .ne 5, 3) := by decide +kernel
theorem dX8_echo_20 : decode cX8_echo 20 = .ok (.iconst 0, 1) := by decide +kernel
theorem dX8_echo_21 : decode cX8_echo 21 = .ok (.ireturn, 1) := by decide +kernel
theorem dX8_echo_22 : decode cX8_echo 22 = .ok (.aload_n 0, 1) := by decide +kernel
theorem dX8_echo_23 : decode cX8_echo 23 = .ok (.getfield 10, 3) := by decide +kernel
theorem dX8_echo_26 : decode cX8_echo 26 = .ok (.getfield 59, 3) := by decide +kernel
theorem dX8_echo_29 : decode cX8_echo 29 = .ok (.iload_n 1, 1) := by decide +kernel
theorem dX8_echo_30 : decode cX8_echo 30 = .ok (.iload_n 2, 1) := by decide +kernel
theorem dX8_echo_31 : decode cX8_echo 31 = .ok (.iload_n 3, 1) := by decide +kernel
theorem dX8_echo_32 : decode cX8_echo 32 = .ok (.iload 4, 2) := by decide +kernel
theorem dX8_echo_34 : decode cX8_echo 34 = .ok (.invokevirtual 73, 3) := by decide +kernel
theorem dX8_echo_37 : decode cX8_echo 37 = .ok (.aload_n 0, 1) := by decide +kernel
theorem dX8_echo_38 : decode cX8_echo 38 = .ok (.invokevirtual 67, 3) := by decide +kernel
theorem dX8_echo_41 : decode cX8_echo 41 = .ok (.iconst 1, 1) := by decide +kernel
theorem dX8_echo_42 : decode cX8_echo 42 = .ok (.ireturn, 1) := by decide +kernel
theorem dX8_blank_0 : decode cX8_blank 0 = .ok (.iload_n 1, 1) := by decide +kernel
theorem dX8_blank_1 : decode cX8_blank 1 = .ok (.invokestatic 76, 3) := by decide +kernel
theorem dX8_blank_4 : decode cX8_blank 4 = .ok (.ifCond .ne 5, 3) := by decide +kernel
theorem dX8_blank_7 : decode cX8_blank 7 = .ok (.iconst 0, 1) := by decide +kernel
theorem dX8_blank_8 : decode cX8_blank 8 = .ok (.ireturn, 1) := by decide +kernel
theorem dX8_blank_9 : decode cX8_blank 9 = .ok (.aload_n 0, 1) := by decide +kernel
theorem dX8_blank_10 : decode cX8_blank 10 = .ok (.getfield 10, 3) := by decide +kernel
theorem dX8_blank_13 : decode cX8_blank 13 = .ok (.getfield 59, 3) := by decide +kernel
theorem dX8_blank_16 : decode cX8_blank 16 = .ok (.iload_n 1, 1) := by decide +kernel
theorem dX8_blank_17 : decode cX8_blank 17 = .ok (.invokevirtual 79, 3) := by decide +kernel
theorem dX8_blank_20 : decode cX8_blank 20 = .ok (.aload_n 0, 1) := by decide +kernel
theorem dX8_blank_21 : decode cX8_blank 21 = .ok (.invokevirtual 67, 3) := by decide +kernel
theorem dX8_blank_24 : decode cX8_blank 24 = .ok (.iconst 1, 1) := by decide +kernel
theorem dX8_blank_25 : decode cX8_blank 25 = .ok (.ireturn, 1) := by decide +kernel
theorem dX8_noise_0 : decode cX8_noise 0 = .ok (.iload_n 1, 1) := by decide +kernel
theorem dX8_noise_1 : decode cX8_noise 1 = .ok (.iconst 1, 1) := by decide +kernel
theorem dX8_noise_2 : decode cX8_noise 2 = .ok (.bipush 9, 2) := by decide +kernel
theorem dX8_noise_4 : decode cX8_noise 4 = .ok (.invokestatic 49, 3) := by decide +kernel
theorem dX8_noise_7 : decode cX8_noise 7 = .ok (.ifCond .eq 13, 3) := by decide +kernel
theorem dX8_noise_10 : decode cX8_noise 10 = .ok (.iload_n 2, 1) := by decide +kernel
theorem dX8_noise_11 : decode cX8_noise 11 = .ok (.iconst 1, 1) := by decide +kernel
theorem dX8_noise_12 : decode cX8_noise 12 = .ok (.bipush 32, 2) := by decide +kernel
theorem dX8_noise_14 : decode cX8_noise 14 = .ok (.invokestatic 49, 3) := by decide +kernel
theorem dX8_noise_17 : decode cX8_noise 17 = .ok (.ifCond .ne 5, 3) := by decide +kernel
theorem dX8_noise_20 : decode cX8_noise 20 = .ok (.iconst 0, 1) := by decide +kernel
theorem dX8_noise_21 : decode cX8_noise 21 = .ok (.ireturn, 1) := by decide +kernel
theorem dX8_noise_22 : decode cX8_noise 22 = .ok (.aload_n 0, 1) := by decide +kernel
theorem dX8_noise_23 : decode cX8_noise 23 = .ok (.getfield 10, 3) := by decide +kernel
theorem dX8_noise_26 : decode cX8_noise 26 = .ok (.getfield 59, 3) := by decide +kernel
theorem dX8_noise_29 : decode cX8_noise 29 = .ok (.iload_n 1, 1) := by decide +kernel
theorem dX8_noise_30 : decode cX8_noise 30 = .ok (.iload_n 2, 1) := by decide +kernel
theorem dX8_noise_31 : decode cX8_noise 31 = .ok (.invokevirtual 83, 3) := by decide +kernel
theorem dX8_noise_34 : decode cX8_noise 34 = .ok (.aload_n 0, 1) := by decide +kernel
theorem dX8_noise_35 : decode cX8_noise 35 = .ok (.invokevirtual 67, 3) := by decide +kernel
theorem dX8_noise_38 : decode cX8_noise 38 = .ok (.iconst 1, 1) := by decide +kernel
theorem dX8_noise_39 : decode cX8_noise 39 = .ok (.ireturn, 1) := by decide +kernel
theorem dX8_shift_0 : decode cX8_shift 0 = .ok (.iload_n 1, 1) := by decide +kernel
theorem dX8_shift_1 : decode cX8_shift 1 = .ok (.iconst 1, 1) := by decide +kernel
theorem dX8_shift_2 : decode cX8_shift 2 = .ok (.bipush 8, 2) := by decide +kernel
theorem dX8_shift_4 : decode cX8_shift 4 = .ok (.invokestatic 49, 3) := by decide +kernel
theorem dX8_shift_7 : decode cX8_shift 7 = .ok (.ifCond .ne 5, 3) := by decide +kernel
theorem dX8_shift_10 : decode cX8_shift 10 = .ok (.iconst 0, 1) := by decide +kernel
theorem dX8_shift_11 : decode cX8_shift 11 = .ok (.ireturn, 1) := by decide +kernel
theorem dX8_shift_12 : decode cX8_shift 12 = .ok (.aload_n 0, 1) := by decide +kernel
theorem dX8_shift_13 : decode cX8_shift 13 = .ok (.getfield 10, 3) := by decide +kernel
theorem dX8_shift_16 : decode cX8_shift 16 = .ok (.getfield 59, 3) := by decide +kernel
theorem dX8_shift_19 : decode cX8_shift 19 = .ok (.iload_n 1, 1) := by decide +kernel
theorem dX8_shift_20 : decode cX8_shift 20 = .ok (.putfield 87, 3) := by decide +kernel
theorem dX8_shift_23 : decode cX8_shift 23 = .ok (.aload_n 0, 1) := by decide +kernel
theorem dX8_shift_24 : decode cX8_shift 24 = .ok (.invokevirtual 67, 3) := by decide +kernel
theorem dX8_shift_27 : decode cX8_shift 27 = .ok (.iconst 1, 1) := by decide +kernel
theorem dX8_shift_28 : decode cX8_shift 28 = .ok (.ireturn, 1) := by decide +kernel
theorem dX8_tell_0 : decode cX8_tell 0 = .ok (.iload_n 1, 1) := by decide +kernel
theorem dX8_tell_1 : decode cX8_tell 1 = .ok (.iload_n 2, 1) := by decide +kernel
theorem dX8_tell_2 : decode cX8_tell 2 = .ok (.iload_n 3, 1) := by decide +kernel
theorem dX8_tell_3 : decode cX8_tell 3 = .ok (.invokestatic 70, 3) := by decide +kernel
theorem dX8_tell_6 : decode cX8_tell 6 = .ok (.ifCond .ne 5, 3) := by decide +kernel
theorem dX8_tell_9 : decode cX8_tell 9 = .ok (.iconst (-1), 1) := by decide +kernel
theorem dX8_tell_10 : decode cX8_tell 10 = .ok (.ireturn, 1) := by decide +kernel
theorem dX8_tell_11 : decode cX8_tell 11 = .ok (.iload 4, 2) := by decide +kernel
theorem dX8_tell_13 : decode cX8_tell 13 = .ok (.tableswitch 76 0 2 #[27, 41, 55], 27) := by decide +kernel
theorem dX8_tell_40 : decode cX8_tell 40 = .ok (.aload_n 0, 1) := by decide +kernel
theorem dX8_tell_41 : decode cX8_tell 41 = .ok (.getfield 10, 3) := by decide +kernel
theorem dX8_tell_44 : decode cX8_tell 44 = .ok (.getfield 59, 3) := by decide +kernel
theorem dX8_tell_47 : decode cX8_tell 47 = .ok (.iload_n 1, 1) := by decide +kernel
theorem dX8_tell_48 : decode cX8_tell 48 = .ok (.iload_n 2, 1) := by decide +kernel
theorem dX8_tell_49 : decode cX8_tell 49 = .ok (.iload_n 3, 1) := by decide +kernel
theorem dX8_tell_50 : decode cX8_tell 50 = .ok (.invokevirtual 90, 3) := by decide +kernel
theorem dX8_tell_53 : decode cX8_tell 53 = .ok (.ireturn, 1) := by decide +kernel
theorem dX8_tell_54 : decode cX8_tell 54 = .ok (.aload_n 0, 1) := by decide +kernel
theorem dX8_tell_55 : decode cX8_tell 55 = .ok (.getfield 10, 3) := by decide +kernel
theorem dX8_tell_58 : decode cX8_tell 58 = .ok (.getfield 59, 3) := by decide +kernel
theorem dX8_tell_61 : decode cX8_tell 61 = .ok (.iload_n 1, 1) := by decide +kernel
theorem dX8_tell_62 : decode cX8_tell 62 = .ok (.iload_n 2, 1) := by decide +kernel
theorem dX8_tell_63 : decode cX8_tell 63 = .ok (.iload_n 3, 1) := by decide +kernel
theorem dX8_tell_64 : decode cX8_tell 64 = .ok (.invokevirtual 94, 3) := by decide +kernel
theorem dX8_tell_67 : decode cX8_tell 67 = .ok (.ireturn, 1) := by decide +kernel
theorem dX8_tell_68 : decode cX8_tell 68 = .ok (.aload_n 0, 1) := by decide +kernel
theorem dX8_tell_69 : decode cX8_tell 69 = .ok (.getfield 10, 3) := by decide +kernel
theorem dX8_tell_72 : decode cX8_tell 72 = .ok (.getfield 59, 3) := by decide +kernel
theorem dX8_tell_75 : decode cX8_tell 75 = .ok (.iload_n 1, 1) := by decide +kernel
theorem dX8_tell_76 : decode cX8_tell 76 = .ok (.iload_n 2, 1) := by decide +kernel
theorem dX8_tell_77 : decode cX8_tell 77 = .ok (.invokevirtual 97, 3) := by decide +kernel
theorem dX8_tell_80 : decode cX8_tell 80 = .ok (.ifCond .eq 7, 3) := by decide +kernel
theorem dX8_tell_83 : decode cX8_tell 83 = .ok (.iconst 1, 1) := by decide +kernel
theorem dX8_tell_84 : decode cX8_tell 84 = .ok (.goto 4, 3) := by decide +kernel
theorem dX8_tell_87 : decode cX8_tell 87 = .ok (.iconst 0, 1) := by decide +kernel
theorem dX8_tell_88 : decode cX8_tell 88 = .ok (.ireturn, 1) := by decide +kernel
theorem dX8_tell_89 : decode cX8_tell 89 = .ok (.iconst (-1), 1) := by decide +kernel
theorem dX8_tell_90 : decode cX8_tell 90 = .ok (.ireturn, 1) := by decide +kernel
theorem dX8_trace_0 : decode cX8_trace 0 = .ok (.aload_n 0, 1) := by decide +kernel
theorem dX8_trace_1 : decode cX8_trace 1 = .ok (.iload_n 1, 1) := by decide +kernel
theorem dX8_trace_2 : decode cX8_trace 2 = .ok (.invokevirtual 100, 3) := by decide +kernel
theorem dX8_trace_5 : decode cX8_trace 5 = .ok (.ifCond .ne 5, 3) := by decide +kernel
theorem dX8_trace_8 : decode cX8_trace 8 = .ok (.iconst (-1), 1) := by decide +kernel
theorem dX8_trace_9 : decode cX8_trace 9 = .ok (.ireturn, 1) := by decide +kernel
theorem dX8_trace_10 : decode cX8_trace 10 = .ok (.iload_n 2, 1) := by decide +kernel
theorem dX8_trace_11 : decode cX8_trace 11 = .ok (.tableswitch 59 0 3 #[29, 37, 45, 53], 29) := by decide +kernel
theorem dX8_trace_40 : decode cX8_trace 40 = .ok (.aload_n 0, 1) := by decide +kernel
theorem dX8_trace_41 : decode cX8_trace 41 = .ok (.getfield 23, 3) := by decide +kernel
theorem dX8_trace_44 : decode cX8_trace 44 = .ok (.getfield 103, 3) := by decide +kernel
theorem dX8_trace_47 : decode cX8_trace 47 = .ok (.ireturn, 1) := by decide +kernel
theorem dX8_trace_48 : decode cX8_trace 48 = .ok (.aload_n 0, 1) := by decide +kernel
theorem dX8_trace_49 : decode cX8_trace 49 = .ok (.getfield 23, 3) := by decide +kernel
theorem dX8_trace_52 : decode cX8_trace 52 = .ok (.getfield 106, 3) := by decide +kernel
theorem dX8_trace_55 : decode cX8_trace 55 = .ok (.ireturn, 1) := by decide +kernel
theorem dX8_trace_56 : decode cX8_trace 56 = .ok (.aload_n 0, 1) := by decide +kernel
theorem dX8_trace_57 : decode cX8_trace 57 = .ok (.getfield 23, 3) := by decide +kernel
theorem dX8_trace_60 : decode cX8_trace 60 = .ok (.getfield 109, 3) := by decide +kernel
theorem dX8_trace_63 : decode cX8_trace 63 = .ok (.ireturn, 1) := by decide +kernel
theorem dX8_trace_64 : decode cX8_trace 64 = .ok (.aload_n 0, 1) := by decide +kernel
theorem dX8_trace_65 : decode cX8_trace 65 = .ok (.iload_n 1, 1) := by decide +kernel
theorem dX8_trace_66 : decode cX8_trace 66 = .ok (.invokevirtual 112, 3) := by decide +kernel
theorem dX8_trace_69 : decode cX8_trace 69 = .ok (.ireturn, 1) := by decide +kernel
theorem dX8_trace_70 : decode cX8_trace 70 = .ok (.iconst (-1), 1) := by decide +kernel
theorem dX8_trace_71 : decode cX8_trace 71 = .ok (.ireturn, 1) := by decide +kernel
theorem dX8_height_0 : decode cX8_height 0 = .ok (.iload_n 1, 1) := by decide +kernel
theorem dX8_height_1 : decode cX8_height 1 = .ok (.iload_n 2, 1) := by decide +kernel
theorem dX8_height_2 : decode cX8_height 2 = .ok (.invokestatic 45, 3) := by decide +kernel
theorem dX8_height_5 : decode cX8_height 5 = .ok (.ifCond .eq 11, 3) := by decide +kernel
theorem dX8_height_8 : decode cX8_height 8 = .ok (.aload_n 0, 1) := by decide +kernel
theorem dX8_height_9 : decode cX8_height 9 = .ok (.iload_n 1, 1) := by decide +kernel
theorem dX8_height_10 : decode cX8_height 10 = .ok (.invokevirtual 100, 3) := by decide +kernel
theorem dX8_height_13 : decode cX8_height 13 = .ok (.ifCond .ne 5, 3) := by decide +kernel
theorem dX8_height_16 : decode cX8_height 16 = .ok (.iconst (-1), 1) := by decide +kernel
theorem dX8_height_17 : decode cX8_height 17 = .ok (.ireturn, 1) := by decide +kernel
theorem dX8_height_18 : decode cX8_height 18 = .ok (.aload_n 0, 1) := by decide +kernel
theorem dX8_height_19 : decode cX8_height 19 = .ok (.getfield 23, 3) := by decide +kernel
theorem dX8_height_22 : decode cX8_height 22 = .ok (.iload_n 2, 1) := by decide +kernel
theorem dX8_height_23 : decode cX8_height 23 = .ok (.invokevirtual 116, 3) := by decide +kernel
theorem dX8_height_26 : decode cX8_height 26 = .ok (.ireturn, 1) := by decide +kernel
theorem dX8_undone_0 : decode cX8_undone 0 = .ok (.aload_n 0, 1) := by decide +kernel
theorem dX8_undone_1 : decode cX8_undone 1 = .ok (.iload_n 1, 1) := by decide +kernel
theorem dX8_undone_2 : decode cX8_undone 2 = .ok (.invokevirtual 100, 3) := by decide +kernel
theorem dX8_undone_5 : decode cX8_undone 5 = .ok (.ifCond .eq 13, 3) := by decide +kernel
theorem dX8_undone_8 : decode cX8_undone 8 = .ok (.aload_n 0, 1) := by decide +kernel
theorem dX8_undone_9 : decode cX8_undone 9 = .ok (.getfield 30, 3) := by decide +kernel
theorem dX8_undone_12 : decode cX8_undone 12 = .ok (.getfield 119, 3) := by decide +kernel
theorem dX8_undone_15 : decode cX8_undone 15 = .ok (.goto 4, 3) := by decide +kernel
theorem dX8_undone_18 : decode cX8_undone 18 = .ok (.iconst (-1), 1) := by decide +kernel
theorem dX8_undone_19 : decode cX8_undone 19 = .ok (.ireturn, 1) := by decide +kernel
theorem dX8_place_0 : decode cX8_place 0 = .ok (.aload_n 0, 1) := by decide +kernel
theorem dX8_place_1 : decode cX8_place 1 = .ok (.iload_n 1, 1) := by decide +kernel
theorem dX8_place_2 : decode cX8_place 2 = .ok (.invokevirtual 100, 3) := by decide +kernel
theorem dX8_place_5 : decode cX8_place 5 = .ok (.ifCond .eq 20, 3) := by decide +kernel
theorem dX8_place_8 : decode cX8_place 8 = .ok (.iload_n 2, 1) := by decide +kernel
theorem dX8_place_9 : decode cX8_place 9 = .ok (.iconst 0, 1) := by decide +kernel
theorem dX8_place_10 : decode cX8_place 10 = .ok (.aload_n 0, 1) := by decide +kernel
theorem dX8_place_11 : decode cX8_place 11 = .ok (.getfield 30, 3) := by decide +kernel
theorem dX8_place_14 : decode cX8_place 14 = .ok (.getfield 119, 3) := by decide +kernel
theorem dX8_place_17 : decode cX8_place 17 = .ok (.iconst 1, 1) := by decide +kernel
theorem dX8_place_18 : decode cX8_place 18 = .ok (.isub, 1) := by decide +kernel
theorem dX8_place_19 : decode cX8_place 19 = .ok (.invokestatic 49, 3) := by decide +kernel
theorem dX8_place_22 : decode cX8_place 22 = .ok (.ifCond .ne 5, 3) := by decide +kernel
theorem dX8_place_25 : decode cX8_place 25 = .ok (.iconst (-1), 1) := by decide +kernel
theorem dX8_place_26 : decode cX8_place 26 = .ok (.ireturn, 1) := by decide +kernel
theorem dX8_place_27 : decode cX8_place 27 = .ok (.iload_n 3, 1) := by decide +kernel
theorem dX8_place_28 : decode cX8_place 28 = .ok (.tableswitch 55 0 2 #[28, 37, 46], 28) := by decide +kernel
theorem dX8_place_56 : decode cX8_place 56 = .ok (.aload_n 0, 1) := by decide +kernel
theorem dX8_place_57 : decode cX8_place 57 = .ok (.getfield 30, 3) := by decide +kernel
theorem dX8_place_60 : decode cX8_place 60 = .ok (.iload_n 2, 1) := by decide +kernel
theorem dX8_place_61 : decode cX8_place 61 = .ok (.invokevirtual 122, 3) := by decide +kernel
theorem dX8_place_64 : decode cX8_place 64 = .ok (.ireturn, 1) := by decide +kernel
theorem dX8_place_65 : decode cX8_place 65 = .ok (.aload_n 0, 1) := by decide +kernel
theorem dX8_place_66 : decode cX8_place 66 = .ok (.getfield 30, 3) := by decide +kernel
theorem dX8_place_69 : decode cX8_place 69 = .ok (.iload_n 2, 1) := by decide +kernel
theorem dX8_place_70 : decode cX8_place 70 = .ok (.invokevirtual 125, 3) := by decide +kernel
theorem dX8_place_73 : decode cX8_place 73 = .ok (.ireturn, 1) := by decide +kernel
theorem dX8_place_74 : decode cX8_place 74 = .ok (.aload_n 0, 1) := by decide +kernel
theorem dX8_place_75 : decode cX8_place 75 = .ok (.getfield 30, 3) := by decide +kernel
theorem dX8_place_78 : decode cX8_place 78 = .ok (.iload_n 2, 1) := by decide +kernel
theorem dX8_place_79 : decode cX8_place 79 = .ok (.invokevirtual 128, 3) := by decide +kernel
theorem dX8_place_82 : decode cX8_place 82 = .ok (.ireturn, 1) := by decide +kernel
theorem dX8_place_83 : decode cX8_place 83 = .ok (.iconst (-1), 1) := by decide +kernel
theorem dX8_place_84 : decode cX8_place 84 = .ok (.ireturn, 1) := by decide +kernel
theorem dX8_value_0 : decode cX8_value 0 = .ok (.iload_n 1, 1) := by decide +kernel
theorem dX8_value_1 : decode cX8_value 1 = .ok (.iload_n 2, 1) := by decide +kernel
theorem dX8_value_2 : decode cX8_value 2 = .ok (.invokestatic 131, 3) := by decide +kernel
theorem dX8_value_5 : decode cX8_value 5 = .ok (.ifCond .eq 20, 3) := by decide +kernel
theorem dX8_value_8 : decode cX8_value 8 = .ok (.iload_n 3, 1) := by decide +kernel
theorem dX8_value_9 : decode cX8_value 9 = .ok (.invokestatic 134, 3) := by decide +kernel
theorem dX8_value_12 : decode cX8_value 12 = .ok (.ifCond .eq 13, 3) := by decide +kernel
theorem dX8_value_15 : decode cX8_value 15 = .ok (.iload 4, 2) := by decide +kernel
theorem dX8_value_17 : decode cX8_value 17 = .ok (.iconst 0, 1) := by decide +kernel
theorem dX8_value_18 : decode cX8_value 18 = .ok (.iconst 2, 1) := by decide +kernel
theorem dX8_value_19 : decode cX8_value 19 = .ok (.invokestatic 49, 3) := by decide +kernel
theorem dX8_value_22 : decode cX8_value 22 = .ok (.ifCond .ne 5, 3) := by decide +kernel
theorem dX8_value_25 : decode cX8_value 25 = .ok (.iconst 0, 1) := by decide +kernel
theorem dX8_value_26 : decode cX8_value 26 = .ok (.ireturn, 1) := by decide +kernel
theorem dX8_value_27 : decode cX8_value 27 = .ok (.aload_n 0, 1) := by decide +kernel
theorem dX8_value_28 : decode cX8_value 28 = .ok (.getfield 10, 3) := by decide +kernel
theorem dX8_value_31 : decode cX8_value 31 = .ok (.getfield 137, 3) := by decide +kernel
theorem dX8_value_34 : decode cX8_value 34 = .ok (.iload_n 1, 1) := by decide +kernel
theorem dX8_value_35 : decode cX8_value 35 = .ok (.iload_n 2, 1) := by decide +kernel
theorem dX8_value_36 : decode cX8_value 36 = .ok (.iload_n 3, 1) := by decide +kernel
theorem dX8_value_37 : decode cX8_value 37 = .ok (.iload 4, 2) := by decide +kernel
theorem dX8_value_39 : decode cX8_value 39 = .ok (.invokevirtual 141, 3) := by decide +kernel
theorem dX8_value_42 : decode cX8_value 42 = .ok (.iconst 1, 1) := by decide +kernel
theorem dX8_value_43 : decode cX8_value 43 = .ok (.ireturn, 1) := by decide +kernel
theorem dX8_scale_0 : decode cX8_scale 0 = .ok (.iload_n 1, 1) := by decide +kernel
theorem dX8_scale_1 : decode cX8_scale 1 = .ok (.invokestatic 76, 3) := by decide +kernel
theorem dX8_scale_4 : decode cX8_scale 4 = .ok (.ifCond .eq 11, 3) := by decide +kernel
theorem dX8_scale_7 : decode cX8_scale 7 = .ok (.iload_n 2, 1) := by decide +kernel
theorem dX8_scale_8 : decode cX8_scale 8 = .ok (.iload_n 3, 1) := by decide +kernel
theorem dX8_scale_9 : decode cX8_scale 9 = .ok (.invokestatic 131, 3) := by decide +kernel
theorem dX8_scale_12 : decode cX8_scale 12 = .ok (.ifCond .ne 5, 3) := by decide +kernel
theorem dX8_scale_15 : decode cX8_scale 15 = .ok (.iconst 0, 1) := by decide +kernel
theorem dX8_scale_16 : decode cX8_scale 16 = .ok (.ireturn, 1) := by decide +kernel
theorem dX8_scale_17 : decode cX8_scale 17 = .ok (.aload_n 0, 1) := by decide +kernel
theorem dX8_scale_18 : decode cX8_scale 18 = .ok (.iload_n 1, 1) := by decide +kernel
theorem dX8_scale_19 : decode cX8_scale 19 = .ok (.invokevirtual 100, 3) := by decide +kernel
theorem dX8_scale_22 : decode cX8_scale 22 = .ok (.ifCond .eq 33, 3) := by decide +kernel
theorem dX8_scale_25 : decode cX8_scale 25 = .ok (.aload_n 0, 1) := by decide +kernel
theorem dX8_scale_26 : decode cX8_scale 26 = .ok (.getfield 10, 3) := by decide +kernel
theorem dX8_scale_29 : decode cX8_scale 29 = .ok (.getfield 137, 3) := by decide +kernel
theorem dX8_scale_32 : decode cX8_scale 32 = .ok (.iload_n 2, 1) := by decide +kernel
theorem dX8_scale_33 : decode cX8_scale 33 = .ok (.iload_n 3, 1) := by decide +kernel
theorem dX8_scale_34 : decode cX8_scale 34 = .ok (.aload_n 0, 1) := by decide +kernel
theorem dX8_scale_35 : decode cX8_scale 35 = .ok (.getfield 23, 3) := by decide +kernel
theorem dX8_scale_38 : decode cX8_scale 38 = .ok (.getfield 109, 3) := by decide +kernel
theorem dX8_scale_41 : decode cX8_scale 41 = .ok (.bipush 10, 2) := by decide +kernel
theorem dX8_scale_43 : decode cX8_scale 43 = .ok (.imul, 1) := by decide +kernel
theorem dX8_scale_44 : decode cX8_scale 44 = .ok (.aload_n 0, 1) := by decide +kernel
theorem dX8_scale_45 : decode cX8_scale 45 = .ok (.iload_n 1, 1) := by decide +kernel
theorem dX8_scale_46 : decode cX8_scale 46 = .ok (.invokevirtual 112, 3) := by decide +kernel
theorem dX8_scale_49 : decode cX8_scale 49 = .ok (.invokevirtual 141, 3) := by decide +kernel
theorem dX8_scale_52 : decode cX8_scale 52 = .ok (.goto 15, 3) := by decide +kernel
theorem dX8_scale_55 : decode cX8_scale 55 = .ok (.aload_n 0, 1) := by decide +kernel
theorem dX8_scale_56 : decode cX8_scale 56 = .ok (.getfield 10, 3) := by decide +kernel
theorem dX8_scale_59 : decode cX8_scale 59 = .ok (.getfield 137, 3) := by decide +kernel
theorem dX8_scale_62 : decode cX8_scale 62 = .ok (.iload_n 2, 1) := by decide +kernel
theorem dX8_scale_63 : decode cX8_scale 63 = .ok (.iload_n 3, 1) := by decide +kernel
theorem dX8_scale_64 : decode cX8_scale 64 = .ok (.invokevirtual 146, 3) := by decide +kernel
theorem dX8_scale_67 : decode cX8_scale 67 = .ok (.iconst 1, 1) := by decide +kernel
theorem dX8_scale_68 : decode cX8_scale 68 = .ok (.ireturn, 1) := by decide +kernel
theorem dX8_miss_0 : decode cX8_miss 0 = .ok (.iload_n 1, 1) := by decide +kernel
theorem dX8_miss_1 : decode cX8_miss 1 = .ok (.iload_n 2, 1) := by decide +kernel
theorem dX8_miss_2 : decode cX8_miss 2 = .ok (.invokestatic 131, 3) := by decide +kernel
theorem dX8_miss_5 : decode cX8_miss 5 = .ok (.ifCond .ne 5, 3) := by decide +kernel
theorem dX8_miss_8 : decode cX8_miss 8 = .ok (.iconst 0, 1) := by decide +kernel
theorem dX8_miss_9 : decode cX8_miss 9 = .ok (.ireturn, 1) := by decide +kernel
theorem dX8_miss_10 : decode cX8_miss 10 = .ok (.aload_n 0, 1) := by decide +kernel
theorem dX8_miss_11 : decode cX8_miss 11 = .ok (.getfield 10, 3) := by decide +kernel
theorem dX8_miss_14 : decode cX8_miss 14 = .ok (.getfield 137, 3) := by decide +kernel
theorem dX8_miss_17 : decode cX8_miss 17 = .ok (.iload_n 1, 1) := by decide +kernel
theorem dX8_miss_18 : decode cX8_miss 18 = .ok (.iload_n 2, 1) := by decide +kernel
theorem dX8_miss_19 : decode cX8_miss 19 = .ok (.invokevirtual 146, 3) := by decide +kernel
theorem dX8_miss_22 : decode cX8_miss 22 = .ok (.iconst 1, 1) := by decide +kernel
theorem dX8_miss_23 : decode cX8_miss 23 = .ok (.ireturn, 1) := by decide +kernel
theorem dX8_table_0 : decode cX8_table 0 = .ok (.iload_n 1, 1) := by decide +kernel
theorem dX8_table_1 : decode cX8_table 1 = .ok (.iload_n 2, 1) := by decide +kernel
theorem dX8_table_2 : decode cX8_table 2 = .ok (.invokestatic 131, 3) := by decide +kernel
theorem dX8_table_5 : decode cX8_table 5 = .ok (.ifCond .eq 18, 3) := by decide +kernel
theorem dX8_table_8 : decode cX8_table 8 = .ok (.aload_n 0, 1) := by decide +kernel
theorem dX8_table_9 : decode cX8_table 9 = .ok (.getfield 10, 3) := by decide +kernel
theorem dX8_table_12 : decode cX8_table 12 = .ok (.getfield 137, 3) := by decide +kernel
theorem dX8_table_15 : decode cX8_table 15 = .ok (.iload_n 1, 1) := by decide +kernel
theorem dX8_table_16 : decode cX8_table 16 = .ok (.iload_n 2, 1) := by decide +kernel
theorem dX8_table_17 : decode cX8_table 17 = .ok (.invokevirtual 149, 3) := by decide +kernel
theorem dX8_table_20 : decode cX8_table 20 = .ok (.ifCond .eq 5, 3) := by decide +kernel
theorem dX8_table_23 : decode cX8_table 23 = .ok (.iconst (-1), 1) := by decide +kernel
theorem dX8_table_24 : decode cX8_table 24 = .ok (.ireturn, 1) := by decide +kernel
theorem dX8_table_25 : decode cX8_table 25 = .ok (.iload_n 3, 1) := by decide +kernel
theorem dX8_table_26 : decode cX8_table 26 = .ok (.lookupswitch 52 #[(0, 26), (1, 39)], 26) := by decide +kernel
theorem dX8_table_52 : decode cX8_table 52 = .ok (.aload_n 0, 1) := by decide +kernel
theorem dX8_table_53 : decode cX8_table 53 = .ok (.getfield 10, 3) := by decide +kernel
theorem dX8_table_56 : decode cX8_table 56 = .ok (.getfield 137, 3) := by decide +kernel
theorem dX8_table_59 : decode cX8_table 59 = .ok (.iload_n 1, 1) := by decide +kernel
theorem dX8_table_60 : decode cX8_table 60 = .ok (.iload_n 2, 1) := by decide +kernel
theorem dX8_table_61 : decode cX8_table 61 = .ok (.invokevirtual 152, 3) := by decide +kernel
theorem dX8_table_64 : decode cX8_table 64 = .ok (.ireturn, 1) := by decide +kernel
theorem dX8_table_65 : decode cX8_table 65 = .ok (.aload_n 0, 1) := by decide +kernel
theorem dX8_table_66 : decode cX8_table 66 = .ok (.getfield 10, 3) := by decide +kernel
theorem dX8_table_69 : decode cX8_table 69 = .ok (.getfield 137, 3) := by decide +kernel
theorem dX8_table_72 : decode cX8_table 72 = .ok (.iload_n 1, 1) := by decide +kernel
theorem dX8_table_73 : decode cX8_table 73 = .ok (.iload_n 2, 1) := by decide +kernel
theorem dX8_table_74 : decode cX8_table 74 = .ok (.invokevirtual 156, 3) := by decide +kernel
theorem dX8_table_77 : decode cX8_table 77 = .ok (.ireturn, 1) := by decide +kernel
theorem dX8_table_78 : decode cX8_table 78 = .ok (.iconst (-1), 1) := by decide +kernel
theorem dX8_table_79 : decode cX8_table 79 = .ok (.ireturn, 1) := by decide +kernel
theorem dX8_middle_0 : decode cX8_middle 0 = .ok (.iload_n 1, 1) := by decide +kernel
theorem dX8_middle_1 : decode cX8_middle 1 = .ok (.iconst 0, 1) := by decide +kernel
theorem dX8_middle_2 : decode cX8_middle 2 = .ok (.bipush 23, 2) := by decide +kernel
theorem dX8_middle_4 : decode cX8_middle 4 = .ok (.invokestatic 49, 3) := by decide +kernel
theorem dX8_middle_7 : decode cX8_middle 7 = .ok (.ifCond .ne 6, 3) := by decide +kernel
theorem dX8_middle_10 : decode cX8_middle 10 = .ok (.bipush (-2), 2) := by decide +kernel
theorem dX8_middle_12 : decode cX8_middle 12 = .ok (.ireturn, 1) := by decide +kernel
theorem dX8_middle_13 : decode cX8_middle 13 = .ok (.iload_n 2, 1) := by decide +kernel
theorem dX8_middle_14 : decode cX8_middle 14 = .ok (.tableswitch 76 0 2 #[26, 44, 64], 26) := by decide +kernel
theorem dX8_middle_40 : decode cX8_middle 40 = .ok (.aload_n 0, 1) := by decide +kernel
theorem dX8_middle_41 : decode cX8_middle 41 = .ok (.getfield 37, 3) := by decide +kernel
theorem dX8_middle_44 : decode cX8_middle 44 = .ok (.aload_n 0, 1) := by decide +kernel
theorem dX8_middle_45 : decode cX8_middle 45 = .ok (.getfield 10, 3) := by decide +kernel
theorem dX8_middle_48 : decode cX8_middle 48 = .ok (.getfield 137, 3) := by decide +kernel
theorem dX8_middle_51 : decode cX8_middle 51 = .ok (.iload_n 1, 1) := by decide +kernel
theorem dX8_middle_52 : decode cX8_middle 52 = .ok (.iconst 2, 1) := by decide +kernel
theorem dX8_middle_53 : decode cX8_middle 53 = .ok (.iconst (-1), 1) := by decide +kernel
theorem dX8_middle_54 : decode cX8_middle 54 = .ok (.invokevirtual 159, 3) := by decide +kernel
theorem dX8_middle_57 : decode cX8_middle 57 = .ok (.ireturn, 1) := by decide +kernel
theorem dX8_middle_58 : decode cX8_middle 58 = .ok (.aload_n 0, 1) := by decide +kernel
theorem dX8_middle_59 : decode cX8_middle 59 = .ok (.getfield 37, 3) := by decide +kernel
theorem dX8_middle_62 : decode cX8_middle 62 = .ok (.aload_n 0, 1) := by decide +kernel
theorem dX8_middle_63 : decode cX8_middle 63 = .ok (.getfield 10, 3) := by decide +kernel
theorem dX8_middle_66 : decode cX8_middle 66 = .ok (.getfield 137, 3) := by decide +kernel
theorem dX8_middle_69 : decode cX8_middle 69 = .ok (.iload_n 1, 1) := by decide +kernel
theorem dX8_middle_70 : decode cX8_middle 70 = .ok (.iconst 1, 1) := by decide +kernel
theorem dX8_middle_71 : decode cX8_middle 71 = .ok (.sipush 1000, 3) := by decide +kernel
theorem dX8_middle_74 : decode cX8_middle 74 = .ok (.invokevirtual 159, 3) := by decide +kernel
theorem dX8_middle_77 : decode cX8_middle 77 = .ok (.ireturn, 1) := by decide +kernel
theorem dX8_middle_78 : decode cX8_middle 78 = .ok (.aload_n 0, 1) := by decide +kernel
theorem dX8_middle_79 : decode cX8_middle 79 = .ok (.getfield 10, 3) := by decide +kernel
theorem dX8_middle_82 : decode cX8_middle 82 = .ok (.getfield 137, 3) := by decide +kernel
theorem dX8_middle_85 : decode cX8_middle 85 = .ok (.iload_n 1, 1) := by decide +kernel
theorem dX8_middle_86 : decode cX8_middle 86 = .ok (.invokevirtual 163, 3) := by decide +kernel
theorem dX8_middle_89 : decode cX8_middle 89 = .ok (.ireturn, 1) := by decide +kernel
theorem dX8_middle_90 : decode cX8_middle 90 = .ok (.bipush (-2), 2) := by decide +kernel
theorem dX8_middle_92 : decode cX8_middle 92 = .ok (.ireturn, 1) := by decide +kernel
theorem dX8_hops_0 : decode cX8_hops 0 = .ok (.iload_n 1, 1) := by decide +kernel
theorem dX8_hops_1 : decode cX8_hops 1 = .ok (.iconst 1, 1) := by decide +kernel
theorem dX8_hops_2 : decode cX8_hops 2 = .ok (.sipush 20000, 3) := by decide +kernel
theorem dX8_hops_5 : decode cX8_hops 5 = .ok (.invokestatic 49, 3) := by decide +kernel
theorem dX8_hops_8 : decode cX8_hops 8 = .ok (.ifCond .eq 35, 3) := by decide +kernel
theorem dX8_hops_11 : decode cX8_hops 11 = .ok (.iload_n 2, 1) := by decide +kernel
theorem dX8_hops_12 : decode cX8_hops 12 = .ok (.iconst 1, 1) := by decide +kernel
theorem dX8_hops_13 : decode cX8_hops 13 = .ok (.sipush 1000, 3) := by decide +kernel
theorem dX8_hops_16 : decode cX8_hops 16 = .ok (.invokestatic 49, 3) := by decide +kernel
theorem dX8_hops_19 : decode cX8_hops 19 = .ok (.ifCond .eq 24, 3) := by decide +kernel
theorem dX8_hops_22 : decode cX8_hops 22 = .ok (.iload_n 3, 1) := by decide +kernel
theorem dX8_hops_23 : decode cX8_hops 23 = .ok (.iconst 1, 1) := by decide +kernel
theorem dX8_hops_24 : decode cX8_hops 24 = .ok (.sipush 1000, 3) := by decide +kernel
theorem dX8_hops_27 : decode cX8_hops 27 = .ok (.invokestatic 49, 3) := by decide +kernel
theorem dX8_hops_30 : decode cX8_hops 30 = .ok (.ifCond .eq 13, 3) := by decide +kernel
theorem dX8_hops_33 : decode cX8_hops 33 = .ok (.iload 4, 2) := by decide +kernel
theorem dX8_hops_35 : decode cX8_hops 35 = .ok (.iconst 1, 1) := by decide +kernel
theorem dX8_hops_36 : decode cX8_hops 36 = .ok (.iconst 5, 1) := by decide +kernel
theorem dX8_hops_37 : decode cX8_hops 37 = .ok (.invokestatic 49, 3) := by decide +kernel
theorem dX8_hops_40 : decode cX8_hops 40 = .ok (.ifCond .ne 5, 3) := by decide +kernel
theorem dX8_hops_43 : decode cX8_hops 43 = .ok (.iconst (-1), 1) := by decide +kernel
theorem dX8_hops_44 : decode cX8_hops 44 = .ok (.ireturn, 1) := by decide +kernel
theorem dX8_hops_45 : decode cX8_hops 45 = .ok (.iload_n 1, 1) := by decide +kernel
theorem dX8_hops_46 : decode cX8_hops 46 = .ok (.iload_n 2, 1) := by decide +kernel
theorem dX8_hops_47 : decode cX8_hops 47 = .ok (.iload_n 3, 1) := by decide +kernel
theorem dX8_hops_48 : decode cX8_hops 48 = .ok (.iload 4, 2) := by decide +kernel
theorem dX8_hops_50 : decode cX8_hops 50 = .ok (.invokestatic 166, 3) := by decide +kernel
theorem dX8_hops_53 : decode cX8_hops 53 = .ok (.ireturn, 1) := by decide +kernel
theorem dX8_fewest_0 : decode cX8_fewest 0 = .ok (.iload_n 1, 1) := by decide +kernel
theorem dX8_fewest_1 : decode cX8_fewest 1 = .ok (.iconst 1, 1) := by decide +kernel
theorem dX8_fewest_2 : decode cX8_fewest 2 = .ok (.sipush 20000, 3) := by decide +kernel
theorem dX8_fewest_5 : decode cX8_fewest 5 = .ok (.invokestatic 49, 3) := by decide +kernel
theorem dX8_fewest_8 : decode cX8_fewest 8 = .ok (.ifCond .eq 14, 3) := by decide +kernel
theorem dX8_fewest_11 : decode cX8_fewest 11 = .ok (.iload_n 2, 1) := by decide +kernel
theorem dX8_fewest_12 : decode cX8_fewest 12 = .ok (.iconst 1, 1) := by decide +kernel
theorem dX8_fewest_13 : decode cX8_fewest 13 = .ok (.sipush 20000, 3) := by decide +kernel
theorem dX8_fewest_16 : decode cX8_fewest 16 = .ok (.invokestatic 49, 3) := by decide +kernel
theorem dX8_fewest_19 : decode cX8_fewest 19 = .ok (.ifCond .ne 5, 3) := by decide +kernel
theorem dX8_fewest_22 : decode cX8_fewest 22 = .ok (.iconst (-1), 1) := by decide +kernel
