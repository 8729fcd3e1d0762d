theorem dX9_cell_7 : decode cX9_cell 7 = .ok (.iload_n 1, 1) := by decide +kernel
theorem dX9_cell_8 : decode cX9_cell 8 = .ok (.iadd, 1) := by decide +kernel
theorem dX9_cell_9 : decode cX9_cell 9 = .ok (.imul, 1) := by decide +kernel
theorem dX9_cell_10 : decode cX9_cell 10 = .ok (.iadd, 1) := by decide +kernel
theorem dX9_cell_11 : decode cX9_cell 11 = .ok (.ireturn, 1) := by decide +kernel
theorem dX9_sets_0 : decode cX9_sets 0 = .ok (.aload_n 0, 1) := by decide +kernel
theorem dX9_sets_1 : decode cX9_sets 1 = .ok (.getfield 7, 3) := by decide +kernel
theorem dX9_sets_4 : decode cX9_sets 4 = .ok (.iload_n 1, 1) := by decide +kernel
theorem dX9_sets_5 : decode cX9_sets 5 = .ok (.iload_n 2, 1) := by decide +kernel
theorem dX9_sets_6 : decode cX9_sets 6 = .ok (.invokestatic 95, 3) := by decide +kernel
theorem dX9_sets_9 : decode cX9_sets 9 = .ok (.iload_n 3, 1) := by decide +kernel
theorem dX9_sets_10 : decode cX9_sets 10 = .ok (.iastore, 1) := by decide +kernel
theorem dX9_sets_11 : decode cX9_sets 11 = .ok (.aload_n 0, 1) := by decide +kernel
theorem dX9_sets_12 : decode cX9_sets 12 = .ok (.getfield 7, 3) := by decide +kernel
theorem dX9_sets_15 : decode cX9_sets 15 = .ok (.iload_n 1, 1) := by decide +kernel
theorem dX9_sets_16 : decode cX9_sets 16 = .ok (.iload_n 2, 1) := by decide +kernel
theorem dX9_sets_17 : decode cX9_sets 17 = .ok (.invokestatic 95, 3) := by decide +kernel
theorem dX9_sets_20 : decode cX9_sets 20 = .ok (.iconst 1, 1) := by decide +kernel
theorem dX9_sets_21 : decode cX9_sets 21 = .ok (.iadd, 1) := by decide +kernel
theorem dX9_sets_22 : decode cX9_sets 22 = .ok (.iload 4, 2) := by decide +kernel
theorem dX9_sets_24 : decode cX9_sets 24 = .ok (.iastore, 1) := by decide +kernel
theorem dX9_sets_25 : decode cX9_sets 25 = .ok (.return_, 1) := by decide +kernel
theorem dX9_value_0 : decode cX9_value 0 = .ok (.iload_n 1, 1) := by decide +kernel
theorem dX9_value_1 : decode cX9_value 1 = .ok (.iload_n 2, 1) := by decide +kernel
theorem dX9_value_2 : decode cX9_value 2 = .ok (.invokestatic 98, 3) := by decide +kernel
theorem dX9_value_5 : decode cX9_value 5 = .ok (.ifCond .eq 24, 3) := by decide +kernel
theorem dX9_value_8 : decode cX9_value 8 = .ok (.iload_n 3, 1) := by decide +kernel
theorem dX9_value_9 : decode cX9_value 9 = .ok (.iconst 0, 1) := by decide +kernel
theorem dX9_value_10 : decode cX9_value 10 = .ok (.sipush 999, 3) := by decide +kernel
theorem dX9_value_13 : decode cX9_value 13 = .ok (.invokestatic 32, 3) := by decide +kernel
theorem dX9_value_16 : decode cX9_value 16 = .ok (.ifCond .eq 13, 3) := by decide +kernel
theorem dX9_value_19 : decode cX9_value 19 = .ok (.iload 4, 2) := by decide +kernel
theorem dX9_value_21 : decode cX9_value 21 = .ok (.iconst 0, 1) := by decide +kernel
theorem dX9_value_22 : decode cX9_value 22 = .ok (.iconst 2, 1) := by decide +kernel
theorem dX9_value_23 : decode cX9_value 23 = .ok (.invokestatic 32, 3) := by decide +kernel
theorem dX9_value_26 : decode cX9_value 26 = .ok (.ifCond .ne 5, 3) := by decide +kernel
theorem dX9_value_29 : decode cX9_value 29 = .ok (.iconst 0, 1) := by decide +kernel
theorem dX9_value_30 : decode cX9_value 30 = .ok (.ireturn, 1) := by decide +kernel
theorem dX9_value_31 : decode cX9_value 31 = .ok (.aload_n 0, 1) := by decide +kernel
theorem dX9_value_32 : decode cX9_value 32 = .ok (.iload_n 1, 1) := by decide +kernel
theorem dX9_value_33 : decode cX9_value 33 = .ok (.iload_n 2, 1) := by decide +kernel
theorem dX9_value_34 : decode cX9_value 34 = .ok (.iload_n 3, 1) := by decide +kernel
theorem dX9_value_35 : decode cX9_value 35 = .ok (.iload 4, 2) := by decide +kernel
theorem dX9_value_37 : decode cX9_value 37 = .ok (.invokevirtual 101, 3) := by decide +kernel
theorem dX9_value_40 : decode cX9_value 40 = .ok (.iconst 1, 1) := by decide +kernel
theorem dX9_value_41 : decode cX9_value 41 = .ok (.ireturn, 1) := by decide +kernel
theorem dX9_scale_0 : decode cX9_scale 0 = .ok (.iload_n 1, 1) := by decide +kernel
theorem dX9_scale_1 : decode cX9_scale 1 = .ok (.invokestatic 36, 3) := by decide +kernel
theorem dX9_scale_4 : decode cX9_scale 4 = .ok (.ifCond .eq 11, 3) := by decide +kernel
theorem dX9_scale_7 : decode cX9_scale 7 = .ok (.iload_n 2, 1) := by decide +kernel
theorem dX9_scale_8 : decode cX9_scale 8 = .ok (.iload_n 3, 1) := by decide +kernel
theorem dX9_scale_9 : decode cX9_scale 9 = .ok (.invokestatic 98, 3) := by decide +kernel
theorem dX9_scale_12 : decode cX9_scale 12 = .ok (.ifCond .ne 5, 3) := by decide +kernel
theorem dX9_scale_15 : decode cX9_scale 15 = .ok (.iconst 0, 1) := by decide +kernel
theorem dX9_scale_16 : decode cX9_scale 16 = .ok (.ireturn, 1) := by decide +kernel
theorem dX9_scale_17 : decode cX9_scale 17 = .ok (.aload_n 0, 1) := by decide +kernel
theorem dX9_scale_18 : decode cX9_scale 18 = .ok (.iload_n 1, 1) := by decide +kernel
theorem dX9_scale_19 : decode cX9_scale 19 = .ok (.invokevirtual 79, 3) := by decide +kernel
theorem dX9_scale_22 : decode cX9_scale 22 = .ok (.ifCond .eq 24, 3) := by decide +kernel
theorem dX9_scale_25 : decode cX9_scale 25 = .ok (.aload_n 0, 1) := by decide +kernel
theorem dX9_scale_26 : decode cX9_scale 26 = .ok (.iload_n 2, 1) := by decide +kernel
theorem dX9_scale_27 : decode cX9_scale 27 = .ok (.iload_n 3, 1) := by decide +kernel
theorem dX9_scale_28 : decode cX9_scale 28 = .ok (.bipush 10, 2) := by decide +kernel
theorem dX9_scale_30 : decode cX9_scale 30 = .ok (.aload_n 0, 1) := by decide +kernel
theorem dX9_scale_31 : decode cX9_scale 31 = .ok (.getfield 73, 3) := by decide +kernel
theorem dX9_scale_34 : decode cX9_scale 34 = .ok (.imul, 1) := by decide +kernel
theorem dX9_scale_35 : decode cX9_scale 35 = .ok (.aload_n 0, 1) := by decide +kernel
theorem dX9_scale_36 : decode cX9_scale 36 = .ok (.iload_n 1, 1) := by decide +kernel
theorem dX9_scale_37 : decode cX9_scale 37 = .ok (.invokevirtual 82, 3) := by decide +kernel
theorem dX9_scale_40 : decode cX9_scale 40 = .ok (.invokevirtual 101, 3) := by decide +kernel
theorem dX9_scale_43 : decode cX9_scale 43 = .ok (.goto 11, 3) := by decide +kernel
theorem dX9_scale_46 : decode cX9_scale 46 = .ok (.aload_n 0, 1) := by decide +kernel
theorem dX9_scale_47 : decode cX9_scale 47 = .ok (.iload_n 2, 1) := by decide +kernel
theorem dX9_scale_48 : decode cX9_scale 48 = .ok (.iload_n 3, 1) := by decide +kernel
theorem dX9_scale_49 : decode cX9_scale 49 = .ok (.iconst (-1), 1) := by decide +kernel
theorem dX9_scale_50 : decode cX9_scale 50 = .ok (.iconst 0, 1) := by decide +kernel
theorem dX9_scale_51 : decode cX9_scale 51 = .ok (.invokevirtual 101, 3) := by decide +kernel
theorem dX9_scale_54 : decode cX9_scale 54 = .ok (.iconst 1, 1) := by decide +kernel
theorem dX9_scale_55 : decode cX9_scale 55 = .ok (.ireturn, 1) := by decide +kernel
theorem dX9_miss_0 : decode cX9_miss 0 = .ok (.iload_n 1, 1) := by decide +kernel
theorem dX9_miss_1 : decode cX9_miss 1 = .ok (.iload_n 2, 1) := by decide +kernel
theorem dX9_miss_2 : decode cX9_miss 2 = .ok (.invokestatic 98, 3) := by decide +kernel
theorem dX9_miss_5 : decode cX9_miss 5 = .ok (.ifCond .ne 5, 3) := by decide +kernel
theorem dX9_miss_8 : decode cX9_miss 8 = .ok (.iconst 0, 1) := by decide +kernel
theorem dX9_miss_9 : decode cX9_miss 9 = .ok (.ireturn, 1) := by decide +kernel
theorem dX9_miss_10 : decode cX9_miss 10 = .ok (.aload_n 0, 1) := by decide +kernel
theorem dX9_miss_11 : decode cX9_miss 11 = .ok (.iload_n 1, 1) := by decide +kernel
theorem dX9_miss_12 : decode cX9_miss 12 = .ok (.iload_n 2, 1) := by decide +kernel
theorem dX9_miss_13 : decode cX9_miss 13 = .ok (.iconst (-1), 1) := by decide +kernel
theorem dX9_miss_14 : decode cX9_miss 14 = .ok (.iconst 0, 1) := by decide +kernel
theorem dX9_miss_15 : decode cX9_miss 15 = .ok (.invokevirtual 101, 3) := by decide +kernel
theorem dX9_miss_18 : decode cX9_miss 18 = .ok (.iconst 1, 1) := by decide +kernel
theorem dX9_miss_19 : decode cX9_miss 19 = .ok (.ireturn, 1) := by decide +kernel
theorem dX9_table_0 : decode cX9_table 0 = .ok (.iload_n 1, 1) := by decide +kernel
theorem dX9_table_1 : decode cX9_table 1 = .ok (.iload_n 2, 1) := by decide +kernel
theorem dX9_table_2 : decode cX9_table 2 = .ok (.invokestatic 98, 3) := by decide +kernel
theorem dX9_table_5 : decode cX9_table 5 = .ok (.ifCond .eq 40, 3) := by decide +kernel
theorem dX9_table_8 : decode cX9_table 8 = .ok (.iload_n 3, 1) := by decide +kernel
theorem dX9_table_9 : decode cX9_table 9 = .ok (.iconst 0, 1) := by decide +kernel
theorem dX9_table_10 : decode cX9_table 10 = .ok (.iconst 1, 1) := by decide +kernel
theorem dX9_table_11 : decode cX9_table 11 = .ok (.invokestatic 32, 3) := by decide +kernel
theorem dX9_table_14 : decode cX9_table 14 = .ok (.ifCond .eq 31, 3) := by decide +kernel
theorem dX9_table_17 : decode cX9_table 17 = .ok (.aload_n 0, 1) := by decide +kernel
theorem dX9_table_18 : decode cX9_table 18 = .ok (.getfield 7, 3) := by decide +kernel
theorem dX9_table_21 : decode cX9_table 21 = .ok (.iload_n 1, 1) := by decide +kernel
theorem dX9_table_22 : decode cX9_table 22 = .ok (.iload_n 2, 1) := by decide +kernel
theorem dX9_table_23 : decode cX9_table 23 = .ok (.invokestatic 95, 3) := by decide +kernel
theorem dX9_table_26 : decode cX9_table 26 = .ok (.iaload, 1) := by decide +kernel
theorem dX9_table_27 : decode cX9_table 27 = .ok (.ifCond .lt 18, 3) := by decide +kernel
theorem dX9_table_30 : decode cX9_table 30 = .ok (.aload_n 0, 1) := by decide +kernel
theorem dX9_table_31 : decode cX9_table 31 = .ok (.getfield 7, 3) := by decide +kernel
theorem dX9_table_34 : decode cX9_table 34 = .ok (.iload_n 1, 1) := by decide +kernel
theorem dX9_table_35 : decode cX9_table 35 = .ok (.iload_n 2, 1) := by decide +kernel
theorem dX9_table_36 : decode cX9_table 36 = .ok (.invokestatic 95, 3) := by decide +kernel
theorem dX9_table_39 : decode cX9_table 39 = .ok (.iload_n 3, 1) := by decide +kernel
theorem dX9_table_40 : decode cX9_table 40 = .ok (.iadd, 1) := by decide +kernel
theorem dX9_table_41 : decode cX9_table 41 = .ok (.iaload, 1) := by decide +kernel
theorem dX9_table_42 : decode cX9_table 42 = .ok (.goto 4, 3) := by decide +kernel
theorem dX9_table_45 : decode cX9_table 45 = .ok (.iconst (-1), 1) := by decide +kernel
theorem dX9_table_46 : decode cX9_table 46 = .ok (.ireturn, 1) := by decide +kernel
theorem dX9_present_0 : decode cX9_present 0 = .ok (.iconst 0, 1) := by decide +kernel
theorem dX9_present_1 : decode cX9_present 1 = .ok (.istore_n 2, 1) := by decide +kernel
theorem dX9_present_2 : decode cX9_present 2 = .ok (.iconst 0, 1) := by decide +kernel
theorem dX9_present_3 : decode cX9_present 3 = .ok (.istore_n 3, 1) := by decide +kernel
theorem dX9_present_4 : decode cX9_present 4 = .ok (.iload_n 3, 1) := by decide +kernel
theorem dX9_present_5 : decode cX9_present 5 = .ok (.bipush 31, 2) := by decide +kernel
theorem dX9_present_7 : decode cX9_present 7 = .ok (.if_icmp .ge 30, 3) := by decide +kernel
theorem dX9_present_10 : decode cX9_present 10 = .ok (.iload_n 2, 1) := by decide +kernel
theorem dX9_present_11 : decode cX9_present 11 = .ok (.aload_n 0, 1) := by decide +kernel
theorem dX9_present_12 : decode cX9_present 12 = .ok (.getfield 7, 3) := by decide +kernel
theorem dX9_present_15 : decode cX9_present 15 = .ok (.iload_n 1, 1) := by decide +kernel
theorem dX9_present_16 : decode cX9_present 16 = .ok (.iload_n 3, 1) := by decide +kernel
theorem dX9_present_17 : decode cX9_present 17 = .ok (.invokestatic 95, 3) := by decide +kernel
theorem dX9_present_20 : decode cX9_present 20 = .ok (.iaload, 1) := by decide +kernel
theorem dX9_present_21 : decode cX9_present 21 = .ok (.ifCond .lt 7, 3) := by decide +kernel
theorem dX9_present_24 : decode cX9_present 24 = .ok (.iconst 1, 1) := by decide +kernel
theorem dX9_present_25 : decode cX9_present 25 = .ok (.goto 4, 3) := by decide +kernel
theorem dX9_present_28 : decode cX9_present 28 = .ok (.iconst 0, 1) := by decide +kernel
theorem dX9_present_29 : decode cX9_present 29 = .ok (.iadd, 1) := by decide +kernel
theorem dX9_present_30 : decode cX9_present 30 = .ok (.istore_n 2, 1) := by decide +kernel
theorem dX9_present_31 : decode cX9_present 31 = .ok (.iinc 3 1, 3) := by decide +kernel
theorem dX9_present_34 : decode cX9_present 34 = .ok (.goto (-30), 3) := by decide +kernel
theorem dX9_present_37 : decode cX9_present 37 = .ok (.iload_n 2, 1) := by decide +kernel
theorem dX9_present_38 : decode cX9_present 38 = .ok (.ireturn, 1) := by decide +kernel
theorem dX9_as_0 : decode cX9_as 0 = .ok (.aload_n 0, 1) := by decide +kernel
theorem dX9_as_1 : decode cX9_as 1 = .ok (.getfield 7, 3) := by decide +kernel
theorem dX9_as_4 : decode cX9_as 4 = .ok (.iload_n 1, 1) := by decide +kernel
theorem dX9_as_5 : decode cX9_as 5 = .ok (.iconst 1, 1) := by decide +kernel
theorem dX9_as_6 : decode cX9_as 6 = .ok (.iadd, 1) := by decide +kernel
theorem dX9_as_7 : decode cX9_as 7 = .ok (.iaload, 1) := by decide +kernel
theorem dX9_as_8 : decode cX9_as 8 = .ok (.istore_n 3, 1) := by decide +kernel
theorem dX9_as_9 : decode cX9_as 9 = .ok (.iload_n 2, 1) := by decide +kernel
theorem dX9_as_10 : decode cX9_as 10 = .ok (.ifCond .ne 12, 3) := by decide +kernel
theorem dX9_as_13 : decode cX9_as 13 = .ok (.iload_n 3, 1) := by decide +kernel
theorem dX9_as_14 : decode cX9_as 14 = .ok (.iconst 2, 1) := by decide +kernel
theorem dX9_as_15 : decode cX9_as 15 = .ok (.if_icmp .ne 7, 3) := by decide +kernel
theorem dX9_as_18 : decode cX9_as 18 = .ok (.iconst (-1), 1) := by decide +kernel
theorem dX9_as_19 : decode cX9_as 19 = .ok (.goto 24, 3) := by decide +kernel
theorem dX9_as_22 : decode cX9_as 22 = .ok (.iload_n 2, 1) := by decide +kernel
theorem dX9_as_23 : decode cX9_as 23 = .ok (.ifCond .eq 14, 3) := by decide +kernel
theorem dX9_as_26 : decode cX9_as 26 = .ok (.iload_n 3, 1) := by decide +kernel
theorem dX9_as_27 : decode cX9_as 27 = .ok (.iconst 1, 1) := by decide +kernel
theorem dX9_as_28 : decode cX9_as 28 = .ok (.if_icmp .ne 9, 3) := by decide +kernel
theorem dX9_as_31 : decode cX9_as 31 = .ok (.sipush 1000, 3) := by decide +kernel
theorem dX9_as_34 : decode cX9_as 34 = .ok (.goto 9, 3) := by decide +kernel
theorem dX9_as_37 : decode cX9_as 37 = .ok (.aload_n 0, 1) := by decide +kernel
theorem dX9_as_38 : decode cX9_as 38 = .ok (.getfield 7, 3) := by decide +kernel
theorem dX9_as_41 : decode cX9_as 41 = .ok (.iload_n 1, 1) := by decide +kernel
theorem dX9_as_42 : decode cX9_as 42 = .ok (.iaload, 1) := by decide +kernel
theorem dX9_as_43 : decode cX9_as 43 = .ok (.ireturn, 1) := by decide +kernel
theorem dX9_middle_0 : decode cX9_middle 0 = .ok (.iload_n 1, 1) := by decide +kernel
theorem dX9_middle_1 : decode cX9_middle 1 = .ok (.iconst 0, 1) := by decide +kernel
theorem dX9_middle_2 : decode cX9_middle 2 = .ok (.bipush 23, 2) := by decide +kernel
theorem dX9_middle_4 : decode cX9_middle 4 = .ok (.invokestatic 32, 3) := by decide +kernel
theorem dX9_middle_7 : decode cX9_middle 7 = .ok (.ifCond .eq 12, 3) := by decide +kernel
theorem dX9_middle_10 : decode cX9_middle 10 = .ok (.iload_n 2, 1) := by decide +kernel
theorem dX9_middle_11 : decode cX9_middle 11 = .ok (.iconst 0, 1) := by decide +kernel
theorem dX9_middle_12 : decode cX9_middle 12 = .ok (.iconst 2, 1) := by decide +kernel
theorem dX9_middle_13 : decode cX9_middle 13 = .ok (.invokestatic 32, 3) := by decide +kernel
theorem dX9_middle_16 : decode cX9_middle 16 = .ok (.ifCond .ne 6, 3) := by decide +kernel
theorem dX9_middle_19 : decode cX9_middle 19 = .ok (.bipush (-2), 2) := by decide +kernel
theorem dX9_middle_21 : decode cX9_middle 21 = .ok (.ireturn, 1) := by decide +kernel
theorem dX9_middle_22 : decode cX9_middle 22 = .ok (.aload_n 0, 1) := by decide +kernel
theorem dX9_middle_23 : decode cX9_middle 23 = .ok (.iload_n 1, 1) := by decide +kernel
theorem dX9_middle_24 : decode cX9_middle 24 = .ok (.invokevirtual 105, 3) := by decide +kernel
theorem dX9_middle_27 : decode cX9_middle 27 = .ok (.istore_n 3, 1) := by decide +kernel
theorem dX9_middle_28 : decode cX9_middle 28 = .ok (.iload_n 2, 1) := by decide +kernel
theorem dX9_middle_29 : decode cX9_middle 29 = .ok (.iconst 2, 1) := by decide +kernel
theorem dX9_middle_30 : decode cX9_middle 30 = .ok (.if_icmp .ne 5, 3) := by decide +kernel
theorem dX9_middle_33 : decode cX9_middle 33 = .ok (.iload_n 3, 1) := by decide +kernel
theorem dX9_middle_34 : decode cX9_middle 34 = .ok (.ireturn, 1) := by decide +kernel
theorem dX9_middle_35 : decode cX9_middle 35 = .ok (.iload_n 3, 1) := by decide +kernel
theorem dX9_middle_36 : decode cX9_middle 36 = .ok (.ifCond .ne 6, 3) := by decide +kernel
theorem dX9_middle_39 : decode cX9_middle 39 = .ok (.bipush (-2), 2) := by decide +kernel
theorem dX9_middle_41 : decode cX9_middle 41 = .ok (.ireturn, 1) := by decide +kernel
theorem dX9_middle_42 : decode cX9_middle 42 = .ok (.iload_n 3, 1) := by decide +kernel
theorem dX9_middle_43 : decode cX9_middle 43 = .ok (.iconst 1, 1) := by decide +kernel
theorem dX9_middle_44 : decode cX9_middle 44 = .ok (.isub, 1) := by decide +kernel
theorem dX9_middle_45 : decode cX9_middle 45 = .ok (.iconst 2, 1) := by decide +kernel
theorem dX9_middle_46 : decode cX9_middle 46 = .ok (.idiv, 1) := by decide +kernel
theorem dX9_middle_47 : decode cX9_middle 47 = .ok (.istore 4, 2) := by decide +kernel
theorem dX9_middle_49 : decode cX9_middle 49 = .ok (.iconst (-1), 1) := by decide +kernel
theorem dX9_middle_50 : decode cX9_middle 50 = .ok (.istore 5, 2) := by decide +kernel
theorem dX9_middle_52 : decode cX9_middle 52 = .ok (.iload 5, 2) := by decide +kernel
theorem dX9_middle_54 : decode cX9_middle 54 = .ok (.sipush 1000, 3) := by decide +kernel
theorem dX9_middle_57 : decode cX9_middle 57 = .ok (.if_icmp .gt 87, 3) := by decide +kernel
theorem dX9_middle_60 : decode cX9_middle 60 = .ok (.iconst 0, 1) := by decide +kernel
theorem dX9_middle_61 : decode cX9_middle 61 = .ok (.istore 6, 2) := by decide +kernel
theorem dX9_middle_63 : decode cX9_middle 63 = .ok (.iconst 0, 1) := by decide +kernel
theorem dX9_middle_64 : decode cX9_middle 64 = .ok (.istore 7, 2) := by decide +kernel
theorem dX9_middle_66 : decode cX9_middle 66 = .ok (.iload 7, 2) := by decide +kernel
theorem dX9_middle_68 : decode cX9_middle 68 = .ok (.bipush 31, 2) := by decide +kernel
theorem dX9_middle_70 : decode cX9_middle 70 = .ok (.if_icmp .ge 58, 3) := by decide +kernel
theorem dX9_middle_73 : decode cX9_middle 73 = .ok (.iload 6, 2) := by decide +kernel
theorem dX9_middle_75 : decode cX9_middle 75 = .ok (.aload_n 0, 1) := by decide +kernel
theorem dX9_middle_76 : decode cX9_middle 76 = .ok (.getfield 7, 3) := by decide +kernel
theorem dX9_middle_79 : decode cX9_middle 79 = .ok (.iload_n 1, 1) := by decide +kernel
theorem dX9_middle_80 : decode cX9_middle 80 = .ok (.iload 7, 2) := by decide +kernel
theorem dX9_middle_82 : decode cX9_middle 82 = .ok (.invokestatic 95, 3) := by decide +kernel
theorem dX9_middle_85 : decode cX9_middle 85 = .ok (.iaload, 1) := by decide +kernel
theorem dX9_middle_86 : decode cX9_middle 86 = .ok (.ifCond .lt 32, 3) := by decide +kernel
theorem dX9_middle_89 : decode cX9_middle 89 = .ok (.aload_n 0, 1) := by decide +kernel
theorem dX9_middle_90 : decode cX9_middle 90 = .ok (.iload_n 1, 1) := by decide +kernel
theorem dX9_middle_91 : decode cX9_middle 91 = .ok (.iload 7, 2) := by decide +kernel
theorem dX9_middle_93 : decode cX9_middle 93 = .ok (.invokestatic 95, 3) := by decide +kernel
theorem dX9_middle_96 : decode cX9_middle 96 = .ok (.iload_n 2, 1) := by decide +kernel
theorem dX9_middle_97 : decode cX9_middle 97 = .ok (.iconst 1, 1) := by decide +kernel
theorem dX9_middle_98 : decode cX9_middle 98 = .ok (.if_icmp .ne 7, 3) := by decide +kernel
theorem dX9_middle_101 : decode cX9_middle 101 = .ok (.iconst 1, 1) := by decide +kernel
theorem dX9_middle_102 : decode cX9_middle 102 = .ok (.goto 4, 3) := by decide +kernel
theorem dX9_middle_105 : decode cX9_middle 105 = .ok (.iconst 0, 1) := by decide +kernel
theorem dX9_middle_106 : decode cX9_middle 106 = .ok (.invokevirtual 108, 3) := by decide +kernel
theorem dX9_middle_109 : decode cX9_middle 109 = .ok (.iload 5, 2) := by decide +kernel
theorem dX9_middle_111 : decode cX9_middle 111 = .ok (.if_icmp .gt 7, 3) := by decide +kernel
theorem dX9_middle_114 : decode cX9_middle 114 = .ok (.iconst 1, 1) := by decide +kernel
theorem dX9_middle_115 : decode cX9_middle 115 = .ok (.goto 4, 3) := by decide +kernel
theorem dX9_middle_118 : decode cX9_middle 118 = .ok (.iconst 0, 1) := by decide +kernel
theorem dX9_middle_119 : decode cX9_middle 119 = .ok (.iadd, 1) := by decide +kernel
theorem dX9_middle_120 : decode cX9_middle 120 = .ok (.istore 6, 2) := by decide +kernel
theorem dX9_middle_122 : decode cX9_middle 122 = .ok (.iinc 7 1, 3) := by decide +kernel
theorem dX9_middle_125 : decode cX9_middle 125 = .ok (.goto (-59), 3) := by decide +kernel
theorem dX9_middle_128 : decode cX9_middle 128 = .ok (.iload 6, 2) := by decide +kernel
theorem dX9_middle_130 : decode cX9_middle 130 = .ok (.iload 4, 2) := by decide +kernel
theorem dX9_middle_132 : decode cX9_middle 132 = .ok (.if_icmp .le 6, 3) := by decide +kernel
theorem dX9_middle_135 : decode cX9_middle 135 = .ok (.iload 5, 2) := by decide +kernel
theorem dX9_middle_137 : decode cX9_middle 137 = .ok (.ireturn, 1) := by decide +kernel
theorem dX9_middle_138 : decode cX9_middle 138 = .ok (.iinc 5 1, 3) := by decide +kernel
theorem dX9_middle_141 : decode cX9_middle 141 = .ok (.goto (-89), 3) := by decide +kernel
theorem dX9_middle_144 : decode cX9_middle 144 = .ok (.bipush (-2), 2) := by decide +kernel
theorem dX9_middle_146 : decode cX9_middle 146 = .ok (.ireturn, 1) := by decide +kernel
theorem dX9_root_0 : decode cX9_root 0 = .ok (.lconst 0, 1) := by decide +kernel
theorem dX9_root_1 : decode cX9_root 1 = .ok (.lstore_n 2, 1) := by decide +kernel
theorem dX9_root_2 : decode cX9_root 2 = .ok (.ldc2_w 112, 3) := by decide +kernel
theorem dX9_root_5 : decode cX9_root 5 = .ok (.lstore 4, 2) := by decide +kernel
theorem dX9_root_7 : decode cX9_root 7 = .ok (.lload_n 2, 1) := by decide +kernel
theorem dX9_root_8 : decode cX9_root 8 = .ok (.lload 4, 2) := by decide +kernel
theorem dX9_root_10 : decode cX9_root 10 = .ok (.lcmp, 1) := by decide +kernel
theorem dX9_root_11 : decode cX9_root 11 = .ok (.ifCond .ge 40, 3) := by decide +kernel
theorem dX9_root_14 : decode cX9_root 14 = .ok (.lload_n 2, 1) := by decide +kernel
theorem dX9_root_15 : decode cX9_root 15 = .ok (.lload 4, 2) := by decide +kernel
theorem dX9_root_17 : decode cX9_root 17 = .ok (.ladd, 1) := by decide +kernel
theorem dX9_root_18 : decode cX9_root 18 = .ok (.lconst 1, 1) := by decide +kernel
theorem dX9_root_19 : decode cX9_root 19 = .ok (.ladd, 1) := by decide +kernel
theorem dX9_root_20 : decode cX9_root 20 = .ok (.ldc2_w 114, 3) := by decide +kernel
theorem dX9_root_23 : decode cX9_root 23 = .ok (.ldiv, 1) := by decide +kernel
theorem dX9_root_24 : decode cX9_root 24 = .ok (.lstore 6, 2) := by decide +kernel
theorem dX9_root_26 : decode cX9_root 26 = .ok (.lload 6, 2) := by decide +kernel
theorem dX9_root_28 : decode cX9_root 28 = .ok (.lload 6, 2) := by decide +kernel
theorem dX9_root_30 : decode cX9_root 30 = .ok (.lmul, 1) := by decide +kernel
theorem dX9_root_31 : decode cX9_root 31 = .ok (.lload_n 0, 1) := by decide +kernel
theorem dX9_root_32 : decode cX9_root 32 = .ok (.lcmp, 1) := by decide +kernel
theorem dX9_root_33 : decode cX9_root 33 = .ok (.ifCond .gt 9, 3) := by decide +kernel
theorem dX9_root_36 : decode cX9_root 36 = .ok (.lload 6, 2) := by decide +kernel
theorem dX9_root_38 : decode cX9_root 38 = .ok (.lstore_n 2, 1) := by decide +kernel
theorem dX9_root_39 : decode cX9_root 39 = .ok (.goto 9, 3) := by decide +kernel
theorem dX9_root_42 : decode cX9_root 42 = .ok (.lload 6, 2) := by decide +kernel
theorem dX9_root_44 : decode cX9_root 44 = .ok (.lconst 1, 1) := by decide +kernel
theorem dX9_root_45 : decode cX9_root 45 = .ok (.lsub, 1) := by decide +kernel
theorem dX9_root_46 : decode cX9_root 46 = .ok (.lstore 4, 2) := by decide +kernel
theorem dX9_root_48 : decode cX9_root 48 = .ok (.goto (-41), 3) := by decide +kernel
theorem dX9_root_51 : decode cX9_root 51 = .ok (.lload_n 2, 1) := by decide +kernel
theorem dX9_root_52 : decode cX9_root 52 = .ok (.lreturn, 1) := by decide +kernel
theorem dX9_hops_0 : decode cX9_hops 0 = .ok (.iload_n 1, 1) := by decide +kernel
theorem dX9_hops_1 : decode cX9_hops 1 = .ok (.iconst 1, 1) := by decide +kernel
theorem dX9_hops_2 : decode cX9_hops 2 = .ok (.sipush 20000, 3) := by decide +kernel
theorem dX9_hops_5 : decode cX9_hops 5 = .ok (.invokestatic 32, 3) := by decide +kernel
theorem dX9_hops_8 : decode cX9_hops 8 = .ok (.ifCond .eq 35, 3) := by decide +kernel
theorem dX9_hops_11 : decode cX9_hops 11 = .ok (.iload_n 2, 1) := by decide +kernel
theorem dX9_hops_12 : decode cX9_hops 12 = .ok (.iconst 1, 1) := by decide +kernel
theorem dX9_hops_13 : decode cX9_hops 13 = .ok (.sipush 1000, 3) := by decide +kernel
theorem dX9_hops_16 : decode cX9_hops 16 = .ok (.invokestatic 32, 3) := by decide +kernel
theorem dX9_hops_19 : decode cX9_hops 19 = .ok (.ifCond .eq 24, 3) := by decide +kernel
theorem dX9_hops_22 : decode cX9_hops 22 = .ok (.iload_n 3, 1) := by decide +kernel
theorem dX9_hops_23 : decode cX9_hops 23 = .ok (.iconst 1, 1) := by decide +kernel
theorem dX9_hops_24 : decode cX9_hops 24 = .ok (.sipush 1000, 3) := by decide +kernel
theorem dX9_hops_27 : decode cX9_hops 27 = .ok (.invokestatic 32, 3) := by decide +kernel
theorem dX9_hops_30 : decode cX9_hops 30 = .ok (.ifCond .eq 13, 3) := by decide +kernel
theorem dX9_hops_33 : decode cX9_hops 33 = .ok (.iload 4, 2) := by decide +kernel
theorem dX9_hops_35 : decode cX9_hops 35 = .ok (.iconst 1, 1) := by decide +kernel
theorem dX9_hops_36 : decode cX9_hops 36 = .ok (.iconst 5, 1) := by decide +kernel
theorem dX9_hops_37 : decode cX9_hops 37 = .ok (.invokestatic 32, 3) := by decide +kernel
theorem dX9_hops_40 : decode cX9_hops 40 = .ok (.ifCond .ne 5, 3) := by decide +kernel
theorem dX9_hops_43 : decode cX9_hops 43 = .ok (.iconst (-1), 1) := by decide +kernel
theorem dX9_hops_44 : decode cX9_hops 44 = .ok (.ireturn, 1) := by decide +kernel
theorem dX9_hops_45 : decode cX9_hops 45 = .ok (.ldc2_w 116, 3) := by decide +kernel
theorem dX9_hops_48 : decode cX9_hops 48 = .ok (.iload 4, 2) := by decide +kernel
theorem dX9_hops_50 : decode cX9_hops 50 = .ok (.i2l, 1) := by decide +kernel
theorem dX9_hops_51 : decode cX9_hops 51 = .ok (.lmul, 1) := by decide +kernel
theorem dX9_hops_52 : decode cX9_hops 52 = .ok (.iload 4, 2) := by decide +kernel
theorem dX9_hops_54 : decode cX9_hops 54 = .ok (.i2l, 1) := by decide +kernel
theorem dX9_hops_55 : decode cX9_hops 55 = .ok (.lmul, 1) := by decide +kernel
theorem dX9_hops_56 : decode cX9_hops 56 = .ok (.iload_n 2, 1) := by decide +kernel
theorem dX9_hops_57 : decode cX9_hops 57 = .ok (.i2l, 1) := by decide +kernel
theorem dX9_hops_58 : decode cX9_hops 58 = .ok (.lmul, 1) := by decide +kernel
theorem dX9_hops_59 : decode cX9_hops 59 = .ok (.iload_n 2, 1) := by decide +kernel
theorem dX9_hops_60 : decode cX9_hops 60 = .ok (.i2l, 1) := by decide +kernel
theorem dX9_hops_61 : decode cX9_hops 61 = .ok (.lmul, 1) := by decide +kernel
theorem dX9_hops_62 : decode cX9_hops 62 = .ok (.lstore 5, 2) := by decide +kernel
theorem dX9_hops_64 : decode cX9_hops 64 = .ok (.iload_n 1, 1) := by decide +kernel
theorem dX9_hops_65 : decode cX9_hops 65 = .ok (.i2l, 1) := by decide +kernel
theorem dX9_hops_66 : decode cX9_hops 66 = .ok (.iload_n 1, 1) := by decide +kernel
theorem dX9_hops_67 : decode cX9_hops 67 = .ok (.i2l, 1) := by decide +kernel
theorem dX9_hops_68 : decode cX9_hops 68 = .ok (.lmul, 1) := by decide +kernel
theorem dX9_hops_69 : decode cX9_hops 69 = .ok (.lload 5, 2) := by decide +kernel
theorem dX9_hops_71 : decode cX9_hops 71 = .ok (.ladd, 1) := by decide +kernel
theorem dX9_hops_72 : decode cX9_hops 72 = .ok (.lstore 7, 2) := by decide +kernel
theorem dX9_hops_74 : decode cX9_hops 74 = .ok (.iload_n 3, 1) := by decide +kernel
theorem dX9_hops_75 : decode cX9_hops 75 = .ok (.i2l, 1) := by decide +kernel
theorem dX9_hops_76 : decode cX9_hops 76 = .ok (.iload_n 3, 1) := by decide +kernel
theorem dX9_hops_77 : decode cX9_hops 77 = .ok (.i2l, 1) := by decide +kernel
theorem dX9_hops_78 : decode cX9_hops 78 = .ok (.lmul, 1) := by decide +kernel
theorem dX9_hops_79 : decode cX9_hops 79 = .ok (.lload 7, 2) := by decide +kernel
theorem dX9_hops_81 : decode cX9_hops 81 = .ok (.lmul, 1) := by decide +kernel
theorem dX9_hops_82 : decode cX9_hops 82 = .ok (.lload 5, 2) := by decide +kernel
theorem dX9_hops_84 : decode cX9_hops 84 = .ok (.ldiv, 1) := by decide +kernel
theorem dX9_hops_85 : decode cX9_hops 85 = .ok (.invokestatic 118, 3) := by decide +kernel
theorem dX9_hops_88 : decode cX9_hops 88 = .ok (.l2i, 1) := by decide +kernel
theorem dX9_hops_89 : decode cX9_hops 89 = .ok (.ireturn, 1) := by decide +kernel
theorem dX9_fewest_0 : decode cX9_fewest 0 = .ok (.iload_n 1, 1) := by decide +kernel
theorem dX9_fewest_1 : decode cX9_fewest 1 = .ok (.iconst 1, 1) := by decide +kernel
theorem dX9_fewest_2 : decode cX9_fewest 2 = .ok (.sipush 20000, 3) := by decide +kernel
theorem dX9_fewest_5 : decode cX9_fewest 5 = .ok (.invokestatic 32, 3) := by decide +kernel
theorem dX9_fewest_8 : decode cX9_fewest 8 = .ok (.ifCond .eq 14, 3) := by decide +kernel
theorem dX9_fewest_11 : decode cX9_fewest 11 = .ok (.iload_n 2, 1) := by decide +kernel
theorem dX9_fewest_12 : decode cX9_fewest 12 = .ok (.iconst 1, 1) := by decide +kernel
theorem dX9_fewest_13 : decode cX9_fewest 13 = .ok (.sipush 20000, 3) := by decide +kernel
theorem dX9_fewest_16 : decode cX9_fewest 16 = .ok (.invokestatic 32, 3) := by decide +kernel
theorem dX9_fewest_19 : decode cX9_fewest 19 = .ok (.ifCond .ne 5, 3) := by decide +kernel
theorem dX9_fewest_22 : decode cX9_fewest 22 = .ok (.iconst (-1), 1) := by decide +kernel
theorem dX9_fewest_23 : decode cX9_fewest 23 = .ok (.ireturn, 1) := by decide +kernel
theorem dX9_fewest_24 : decode cX9_fewest 24 = .ok (.iconst 1, 1) := by decide +kernel
theorem dX9_fewest_25 : decode cX9_fewest 25 = .ok (.istore_n 3, 1) := by decide +kernel
theorem dX9_fewest_26 : decode cX9_fewest 26 = .ok (.iload_n 3, 1) := by decide +kernel
theorem dX9_fewest_27 : decode cX9_fewest 27 = .ok (.iconst 5, 1) := by decide +kernel
theorem dX9_fewest_28 : decode cX9_fewest 28 = .ok (.if_icmp .gt 18, 3) := by decide +kernel
theorem dX9_fewest_31 : decode cX9_fewest 31 = .ok (.iload_n 1, 1) := by decide +kernel
theorem dX9_fewest_32 : decode cX9_fewest 32 = .ok (.iload_n 3, 1) := by decide +kernel
theorem dX9_fewest_33 : decode cX9_fewest 33 = .ok (.iload_n 2, 1) := by decide +kernel
theorem dX9_fewest_34 : decode cX9_fewest 34 = .ok (.imul, 1) := by decide +kernel
theorem dX9_fewest_35 : decode cX9_fewest 35 = .ok (.if_icmp .gt 5, 3) := by decide +kernel
theorem dX9_fewest_38 : decode cX9_fewest 38 = .ok (.iload_n 3, 1) := by decide +kernel
theorem dX9_fewest_39 : decode cX9_fewest 39 = .ok (.ireturn, 1) := by decide +kernel
theorem dX9_fewest_40 : decode cX9_fewest 40 = .ok (.iinc 3 1, 3) := by decide +kernel
theorem dX9_fewest_43 : decode cX9_fewest 43 = .ok (.goto (-17), 3) := by decide +kernel
theorem dX9_fewest_46 : decode cX9_fewest 46 = .ok (.iconst (-1), 1) := by decide +kernel
theorem dX9_fewest_47 : decode cX9_fewest 47 = .ok (.ireturn, 1) := by decide +kernel
theorem dX9_isSpot_0 : decode cX9_isSpot 0 = .ok (.iload_n 0, 1) := by decide +kernel
theorem dX9_isSpot_1 : decode cX9_isSpot 1 = .ok (.iconst 0, 1) := by decide +kernel
theorem dX9_isSpot_2 : decode cX9_isSpot 2 = .ok (.sipush 200, 3) := by decide +kernel
theorem dX9_isSpot_5 : decode cX9_isSpot 5 = .ok (.invokestatic 32, 3) := by decide +kernel
theorem dX9_isSpot_8 : decode cX9_isSpot 8 = .ok (.ifCond .eq 18, 3) := by decide +kernel
theorem dX9_isSpot_11 : decode cX9_isSpot 11 = .ok (.iload_n 1, 1) := by decide +kernel
theorem dX9_isSpot_12 : decode cX9_isSpot 12 = .ok (.iconst 0, 1) := by decide +kernel
theorem dX9_isSpot_13 : decode cX9_isSpot 13 = .ok (.sipush 200, 3) := by decide +kernel
theorem dX9_isSpot_16 : decode cX9_isSpot 16 = .ok (.invokestatic 32, 3) := by decide +kernel
theorem dX9_isSpot_19 : decode cX9_isSpot 19 = .ok (.ifCond .eq 7, 3) := by decide +kernel
theorem dX9_isSpot_22 : decode cX9_isSpot 22 = .ok (.iconst 1, 1) := by decide +kernel
theorem dX9_isSpot_23 : decode cX9_isSpot 23 = .ok (.goto 4, 3) := by decide +kernel
theorem dX9_isSpot_26 : decode cX9_isSpot 26 = .ok (.iconst 0, 1) := by decide +kernel
theorem dX9_isSpot_27 : decode cX9_isSpot 27 = .ok (.ireturn, 1) := by decide +kernel
theorem dX9_stationAt_0 : decode cX9_stationAt 0 = .ok (.iconst 0, 1) := by decide +kernel
theorem dX9_stationAt_1 : decode cX9_stationAt 1 = .ok (.istore_n 3, 1) := by decide +kernel
theorem dX9_stationAt_2 : decode cX9_stationAt 2 = .ok (.iload_n 3, 1) := by decide +kernel
theorem dX9_stationAt_3 : decode cX9_stationAt 3 = .ok (.aload_n 0, 1) := by decide +kernel
theorem dX9_stationAt_4 : decode cX9_stationAt 4 = .ok (.getfield 7, 3) := by decide +kernel
theorem dX9_stationAt_7 : decode cX9_stationAt 7 = .ok (.iconst 3, 1) := by decide +kernel
theorem dX9_stationAt_8 : decode cX9_stationAt 8 = .ok (.iaload, 1) := by decide +kernel
theorem dX9_stationAt_9 : decode cX9_stationAt 9 = .ok (.if_icmp .ge 41, 3) := by decide +kernel
theorem dX9_stationAt_12 : decode cX9_stationAt 12 = .ok (.aload_n 0, 1) := by decide +kernel
theorem dX9_stationAt_13 : decode cX9_stationAt 13 = .ok (.getfield 7, 3) := by decide +kernel
theorem dX9_stationAt_16 : decode cX9_stationAt 16 = .ok (.iconst 4, 1) := by decide +kernel
theorem dX9_stationAt_17 : decode cX9_stationAt 17 = .ok (.iconst 3, 1) := by decide +kernel
theorem dX9_stationAt_18 : decode cX9_stationAt 18 = .ok (.iload_n 3, 1) := by decide +kernel
theorem dX9_stationAt_19 : decode cX9_stationAt 19 = .ok (.imul, 1) := by decide +kernel
theorem dX9_stationAt_20 : decode cX9_stationAt 20 = .ok (.iadd, 1) := by decide +kernel
theorem dX9_stationAt_21 : decode cX9_stationAt 21 = .ok (.iaload, 1) := by decide +kernel
theorem dX9_stationAt_22 : decode cX9_stationAt 22 = .ok (.iload_n 1, 1) := by decide +kernel
theorem dX9_stationAt_23 : decode cX9_stationAt 23 = .ok (.if_icmp .ne 21, 3) := by decide +kernel
theorem dX9_stationAt_26 : decode cX9_stationAt 26 = .ok (.aload_n 0, 1) := by decide +kernel
theorem dX9_stationAt_27 : decode cX9_stationAt 27 = .ok (.getfield 7, 3) := by decide +kernel
theorem dX9_stationAt_30 : decode cX9_stationAt 30 = .ok (.iconst 4, 1) := by decide +kernel
theorem dX9_stationAt_31 : decode cX9_stationAt 31 = .ok (.iconst 3, 1) := by decide +kernel
theorem dX9_stationAt_32 : decode cX9_stationAt 32 = .ok (.iload_n 3, 1) := by decide +kernel
theorem dX9_stationAt_33 : decode cX9_stationAt 33 = .ok (.imul, 1) := by decide +kernel
theorem dX9_stationAt_34 : decode cX9_stationAt 34 = .ok (.iadd, 1) := by decide +kernel
theorem dX9_stationAt_35 : decode cX9_stationAt 35 = .ok (.iconst 1, 1) := by decide +kernel
theorem dX9_stationAt_36 : decode cX9_stationAt 36 = .ok (.iadd, 1) := by decide +kernel
theorem dX9_stationAt_37 : decode cX9_stationAt 37 = .ok (.iaload, 1) := by decide +kernel
theorem dX9_stationAt_38 : decode cX9_stationAt 38 = .ok (.iload_n 2, 1) := by decide +kernel
theorem dX9_stationAt_39 : decode cX9_stationAt 39 = .ok (.if_icmp .ne 5, 3) := by decide +kernel
theorem dX9_stationAt_42 : decode cX9_stationAt 42 = .ok (.iload_n 3, 1) := by decide +kernel
theorem dX9_stationAt_43 : decode cX9_stationAt 43 = .ok (.ireturn, 1) := by decide +kernel
theorem dX9_stationAt_44 : decode cX9_stationAt 44 = .ok (.iinc 3 1, 3) := by decide +kernel
theorem dX9_stationAt_47 : decode cX9_stationAt 47 = .ok (.goto (-45), 3) := by decide +kernel
theorem dX9_stationAt_50 : decode cX9_stationAt 50 = .ok (.iconst (-1), 1) := by decide +kernel
theorem dX9_stationAt_51 : decode cX9_stationAt 51 = .ok (.ireturn, 1) := by decide +kernel
theorem dX9_station_0 : decode cX9_station 0 = .ok (.aload_n 0, 1) := by decide +kernel
theorem dX9_station_1 : decode cX9_station 1 = .ok (.getfield 7, 3) := by decide +kernel
theorem dX9_station_4 : decode cX9_station 4 = .ok (.iconst 3, 1) := by decide +kernel
theorem dX9_station_5 : decode cX9_station 5 = .ok (.iaload, 1) := by decide +kernel
theorem dX9_station_6 : decode cX9_station 6 = .ok (.iconst 4, 1) := by decide +kernel
theorem dX9_station_7 : decode cX9_station 7 = .ok (.if_icmp .eq 31, 3) := by decide +kernel
theorem dX9_station_10 : decode cX9_station 10 = .ok (.iload_n 1, 1) := by decide +kernel
theorem dX9_station_11 : decode cX9_station 11 = .ok (.iload_n 2, 1) := by decide +kernel
theorem dX9_station_12 : decode cX9_station 12 = .ok (.invokestatic 122, 3) := by decide +kernel
theorem dX9_station_15 : decode cX9_station 15 = .ok (.ifCond .eq 23, 3) := by decide +kernel
theorem dX9_station_18 : decode cX9_station 18 = .ok (.iload_n 3, 1) := by decide +kernel
theorem dX9_station_19 : decode cX9_station 19 = .ok (.iconst 0, 1) := by decide +kernel
theorem dX9_station_20 : decode cX9_station 20 = .ok (.sipush 999, 3) := by decide +kernel
theorem dX9_station_23 : decode cX9_station 23 = .ok (.invokestatic 32, 3) := by decide +kernel
theorem dX9_station_26 : decode cX9_station 26 = .ok (.ifCond .eq 12, 3) := by decide +kernel
theorem dX9_station_29 : decode cX9_station 29 = .ok (.aload_n 0, 1) := by decide +kernel
theorem dX9_station_30 : decode cX9_station 30 = .ok (.iload_n 1, 1) := by decide +kernel
theorem dX9_station_31 : decode cX9_station 31 = .ok (.iload_n 2, 1) := by decide +kernel
theorem dX9_station_32 : decode cX9_station 32 = .ok (.invokevirtual 125, 3) := by decide +kernel
theorem dX9_station_35 : decode cX9_station 35 = .ok (.ifCond .lt 5, 3) := by decide +kernel
theorem dX9_station_38 : decode cX9_station 38 = .ok (.iconst (-1), 1) := by decide +kernel
theorem dX9_station_39 : decode cX9_station 39 = .ok (.ireturn, 1) := by decide +kernel
theorem dX9_station_40 : decode cX9_station 40 = .ok (.iconst 4, 1) := by decide +kernel
theorem dX9_station_41 : decode cX9_station 41 = .ok (.iconst 3, 1) := by decide +kernel
theorem dX9_station_42 : decode cX9_station 42 = .ok (.aload_n 0, 1) := by decide +kernel
theorem dX9_station_43 : decode cX9_station 43 = .ok (.getfield 7, 3) := by decide +kernel
theorem dX9_station_46 : decode cX9_station 46 = .ok (.iconst 3, 1) := by decide +kernel
theorem dX9_station_47 : decode cX9_station 47 = .ok (.iaload, 1) := by decide +kernel
theorem dX9_station_48 : decode cX9_station 48 = .ok (.imul, 1) := by decide +kernel
theorem dX9_station_49 : decode cX9_station 49 = .ok (.iadd, 1) := by decide +kernel
theorem dX9_station_50 : decode cX9_station 50 = .ok (.istore 4, 2) := by decide +kernel
theorem dX9_station_52 : decode cX9_station 52 = .ok (.aload_n 0, 1) := by decide +kernel
theorem dX9_station_53 : decode cX9_station 53 = .ok (.getfield 7, 3) := by decide +kernel
theorem dX9_station_56 : decode cX9_station 56 = .ok (.iload 4, 2) := by decide +kernel
theorem dX9_station_58 : decode cX9_station 58 = .ok (.iload_n 1, 1) := by decide +kernel
theorem dX9_station_59 : decode cX9_station 59 = .ok (.iastore, 1) := by decide +kernel
theorem dX9_station_60 : decode cX9_station 60 = .ok (.aload_n 0, 1) := by decide +kernel
theorem dX9_station_61 : decode cX9_station 61 = .ok (.getfield 7, 3) := by decide +kernel
theorem dX9_station_64 : decode cX9_station 64 = .ok (.iload 4, 2) := by decide +kernel
theorem dX9_station_66 : decode cX9_station 66 = .ok (.iconst 1, 1) := by decide +kernel
theorem dX9_station_67 : decode cX9_station 67 = .ok (.iadd, 1) := by decide +kernel
theorem dX9_station_68 : decode cX9_station 68 = .ok (.iload_n 2, 1) := by decide +kernel
theorem dX9_station_69 : decode cX9_station 69 = .ok (.iastore, 1) := by decide +kernel
theorem dX9_station_70 : decode cX9_station 70 = .ok (.aload_n 0, 1) := by decide +kernel
theorem dX9_station_71 : decode cX9_station 71 = .ok (.getfield 7, 3) := by decide +kernel
theorem dX9_station_74 : decode cX9_station 74 = .ok (.iload 4, 2) := by decide +kernel
theorem dX9_station_76 : decode cX9_station 76 = .ok (.iconst 2, 1) := by decide +kernel
theorem dX9_station_77 : decode cX9_station 77 = .ok (.iadd, 1) := by decide +kernel
theorem dX9_station_78 : decode cX9_station 78 = .ok (.iload_n 3, 1) := by decide +kernel
theorem dX9_station_79 : decode cX9_station 79 = .ok (.iastore, 1) := by decide +kernel
theorem dX9_station_80 : decode cX9_station 80 = .ok (.aload_n 0, 1) := by decide +kernel
theorem dX9_station_81 : decode cX9_station 81 = .ok (.getfield 7, 3) := by decide +kernel
theorem dX9_station_84 : decode cX9_station 84 = .ok (.iconst 3, 1) := by decide +kernel
theorem dX9_station_85 : decode cX9_station 85 = .ok (.dup2, 1) := by decide +kernel
theorem dX9_station_86 : decode cX9_station 86 = .ok (.iaload, 1) := by decide +kernel
theorem dX9_station_87 : decode cX9_station 87 = .ok (.iconst 1, 1) := by decide +kernel
theorem dX9_station_88 : decode cX9_station 88 = .ok (.iadd, 1) := by decide +kernel
theorem dX9_station_89 : decode cX9_station 89 = .ok (.iastore, 1) := by decide +kernel
theorem dX9_station_90 : decode cX9_station 90 = .ok (.aload_n 0, 1) := by decide +kernel
theorem dX9_station_91 : decode cX9_station 91 = .ok (.getfield 7, 3) := by decide +kernel
theorem dX9_station_94 : decode cX9_station 94 = .ok (.iconst 3, 1) := by decide +kernel
theorem dX9_station_95 : decode cX9_station 95 = .ok (.iaload, 1) := by decide +kernel
theorem dX9_station_96 : decode cX9_station 96 = .ok (.iconst 1, 1) := by decide +kernel
theorem dX9_station_97 : decode cX9_station 97 = .ok (.isub, 1) := by decide +kernel
theorem dX9_station_98 : decode cX9_station 98 = .ok (.ireturn, 1) := by decide +kernel
theorem dX9_tellStation_0 : decode cX9_tellStation 0 = .ok (.iload_n 1, 1) := by decide +kernel
theorem dX9_tellStation_1 : decode cX9_tellStation 1 = .ok (.iconst 0, 1) := by decide +kernel
theorem dX9_tellStation_2 : decode cX9_tellStation 2 = .ok (.aload_n 0, 1) := by decide +kernel
theorem dX9_tellStation_3 : decode cX9_tellStation 3 = .ok (.getfield 7, 3) := by decide +kernel
theorem dX9_tellStation_6 : decode cX9_tellStation 6 = .ok (.iconst 3, 1) := by decide +kernel
theorem dX9_tellStation_7 : decode cX9_tellStation 7 = .ok (.iaload, 1) := by decide +kernel
theorem dX9_tellStation_8 : decode cX9_tellStation 8 = .ok (.iconst 1, 1) := by decide +kernel
theorem dX9_tellStation_9 : decode cX9_tellStation 9 = .ok (.isub, 1) := by decide +kernel
theorem dX9_tellStation_10 : decode cX9_tellStation 10 = .ok (.invokestatic 32, 3) := by decide +kernel
theorem dX9_tellStation_13 : decode cX9_tellStation 13 = .ok (.ifCond .eq 14, 3) := by decide +kernel
theorem dX9_tellStation_16 : decode cX9_tellStation 16 = .ok (.iload_n 2, 1) := by decide +kernel
theorem dX9_tellStation_17 : decode cX9_tellStation 17 = .ok (.iconst 0, 1) := by decide +kernel
theorem dX9_tellStation_18 : decode cX9_tellStation 18 = .ok (.sipush 999, 3) := by decide +kernel
theorem dX9_tellStation_21 : decode cX9_tellStation 21 = .ok (.invokestatic 32, 3) := by decide +kernel
theorem dX9_tellStation_24 : decode cX9_tellStation 24 = .ok (.ifCond .ne 5, 3) := by decide +kernel
theorem dX9_tellStation_27 : decode cX9_tellStation 27 = .ok (.iconst 0, 1) := by decide +kernel
theorem dX9_tellStation_28 : decode cX9_tellStation 28 = .ok (.ireturn, 1) := by decide +kernel
theorem dX9_tellStation_29 : decode cX9_tellStation 29 = .ok (.aload_n 0, 1) := by decide +kernel
theorem dX9_tellStation_30 : decode cX9_tellStation 30 = .ok (.getfield 7, 3) := by decide +kernel
theorem dX9_tellStation_33 : decode cX9_tellStation 33 = .ok (.iconst 4, 1) := by decide +kernel
theorem dX9_tellStation_34 : decode cX9_tellStation 34 = .ok (.iconst 3, 1) := by decide +kernel
theorem dX9_tellStation_35 : decode cX9_tellStation 35 = .ok (.iload_n 1, 1) := by decide +kernel
theorem dX9_tellStation_36 : decode cX9_tellStation 36 = .ok (.imul, 1) := by decide +kernel
theorem dX9_tellStation_37 : decode cX9_tellStation 37 = .ok (.iadd, 1) := by decide +kernel
theorem dX9_tellStation_38 : decode cX9_tellStation 38 = .ok (.iconst 2, 1) := by decide +kernel
theorem dX9_tellStation_39 : decode cX9_tellStation 39 = .ok (.iadd, 1) := by decide +kernel
theorem dX9_tellStation_40 : decode cX9_tellStation 40 = .ok (.iload_n 2, 1) := by decide +kernel
theorem dX9_tellStation_41 : decode cX9_tellStation 41 = .ok (.iastore, 1) := by decide +kernel
theorem dX9_tellStation_42 : decode cX9_tellStation 42 = .ok (.iconst 1, 1) := by decide +kernel
theorem dX9_tellStation_43 : decode cX9_tellStation 43 = .ok (.ireturn, 1) := by decide +kernel
theorem dX9_away_0 : decode cX9_away 0 = .ok (.aload_n 0, 1) := by decide +kernel
theorem dX9_away_1 : decode cX9_away 1 = .ok (.getfield 7, 3) := by decide +kernel
theorem dX9_away_4 : decode cX9_away 4 = .ok (.iconst 4, 1) := by decide +kernel
theorem dX9_away_5 : decode cX9_away 5 = .ok (.iconst 3, 1) := by decide +kernel
theorem dX9_away_6 : decode cX9_away 6 = .ok (.iload_n 1, 1) := by decide +kernel
theorem dX9_away_7 : decode cX9_away 7 = .ok (.imul, 1) := by decide +kernel
theorem dX9_away_8 : decode cX9_away 8 = .ok (.iadd, 1) := by decide +kernel
theorem dX9_away_9 : decode cX9_away 9 = .ok (.iaload, 1) := by decide +kernel
theorem dX9_away_10 : decode cX9_away 10 = .ok (.iload_n 2, 1) := by decide +kernel
theorem dX9_away_11 : decode cX9_away 11 = .ok (.isub, 1) := by decide +kernel
theorem dX9_away_12 : decode cX9_away 12 = .ok (.i2l, 1) := by decide +kernel
theorem dX9_away_13 : decode cX9_away 13 = .ok (.lstore 4, 2) := by decide +kernel
theorem dX9_away_15 : decode cX9_away 15 = .ok (.aload_n 0, 1) := by decide +kernel
theorem dX9_away_16 : decode cX9_away 16 = .ok (.getfield 7, 3) := by decide +kernel
theorem dX9_away_19 : decode cX9_away 19 = .ok (.iconst 4, 1) := by decide +kernel
theorem dX9_away_20 : decode cX9_away 20 = .ok (.iconst 3, 1) := by decide +kernel
theorem dX9_away_21 : decode cX9_away 21 = .ok (.iload_n 1, 1) := by decide +kernel
theorem dX9_away_22 : decode cX9_away 22 = .ok (.imul, 1) := by decide +kernel
theorem dX9_away_23 : decode cX9_away 23 = .ok (.iadd, 1) := by decide +kernel
theorem dX9_away_24 : decode cX9_away 24 = .ok (.iconst 1, 1) := by decide +kernel
theorem dX9_away_25 : decode cX9_away 25 = .ok (.iadd, 1) := by decide +kernel
theorem dX9_away_26 : decode cX9_away 26 = .ok (.iaload, 1) := by decide +kernel
theorem dX9_away_27 : decode cX9_away 27 = .ok (.iload_n 3, 1) := by decide +kernel
theorem dX9_away_28 : decode cX9_away 28 = .ok (.isub, 1) := by decide +kernel
theorem dX9_away_29 : decode cX9_away 29 = .ok (.i2l, 1) := by decide +kernel
theorem dX9_away_30 : decode cX9_away 30 = .ok (.lstore 6, 2) := by decide +kernel
theorem dX9_away_32 : decode cX9_away 32 = .ok (.lload 4, 2) := by decide +kernel
theorem dX9_away_34 : decode cX9_away 34 = .ok (.lload 4, 2) := by decide +kernel
theorem dX9_away_36 : decode cX9_away 36 = .ok (.lmul, 1) := by decide +kernel
theorem dX9_away_37 : decode cX9_away 37 = .ok (.lload 6, 2) := by decide +kernel
theorem dX9_away_39 : decode cX9_away 39 = .ok (.lload 6, 2) := by decide +kernel
theorem dX9_away_41 : decode cX9_away 41 = .ok (.lmul, 1) := by decide +kernel
theorem dX9_away_42 : decode cX9_away 42 = .ok (.ladd, 1) := by decide +kernel
theorem dX9_away_43 : decode cX9_away 43 = .ok (.lreturn, 1) := by decide +kernel
theorem dX9_map_0 : decode cX9_map 0 = .ok (.aload_n 0, 1) := by decide +kernel
theorem dX9_map_1 : decode cX9_map 1 = .ok (.getfield 7, 3) := by decide +kernel
theorem dX9_map_4 : decode cX9_map 4 = .ok (.iconst 3, 1) := by decide +kernel
theorem dX9_map_5 : decode cX9_map 5 = .ok (.iaload, 1) := by decide +kernel
theorem dX9_map_6 : decode cX9_map 6 = .ok (.ifCond .eq 11, 3) := by decide +kernel
theorem dX9_map_9 : decode cX9_map 9 = .ok (.iload_n 1, 1) := by decide +kernel
theorem dX9_map_10 : decode cX9_map 10 = .ok (.iload_n 2, 1) := by decide +kernel
theorem dX9_map_11 : decode cX9_map 11 = .ok (.invokestatic 122, 3) := by decide +kernel
theorem dX9_map_14 : decode cX9_map 14 = .ok (.ifCond .ne 5, 3) := by decide +kernel
theorem dX9_map_17 : decode cX9_map 17 = .ok (.iconst (-1), 1) := by decide +kernel
theorem dX9_map_18 : decode cX9_map 18 = .ok (.ireturn, 1) := by decide +kernel
theorem dX9_map_19 : decode cX9_map 19 = .ok (.aload_n 0, 1) := by decide +kernel
theorem dX9_map_20 : decode cX9_map 20 = .ok (.iload_n 1, 1) := by decide +kernel
theorem dX9_map_21 : decode cX9_map 21 = .ok (.iload_n 2, 1) := by decide +kernel
theorem dX9_map_22 : decode cX9_map 22 = .ok (.invokevirtual 125, 3) := by decide +kernel
theorem dX9_map_25 : decode cX9_map 25 = .ok (.istore_n 3, 1) := by decide +kernel
theorem dX9_map_26 : decode cX9_map 26 = .ok (.iload_n 3, 1) := by decide +kernel
theorem dX9_map_27 : decode cX9_map 27 = .ok (.ifCond .lt 16, 3) := by decide +kernel
theorem dX9_map_30 : decode cX9_map 30 = .ok (.aload_n 0, 1) := by decide +kernel
theorem dX9_map_31 : decode cX9_map 31 = .ok (.getfield 7, 3) := by decide +kernel
theorem dX9_map_34 : decode cX9_map 34 = .ok (.iconst 4, 1) := by decide +kernel
theorem dX9_map_35 : decode cX9_map 35 = .ok (.iconst 3, 1) := by decide +kernel
theorem dX9_map_36 : decode cX9_map 36 = .ok (.iload_n 3, 1) := by decide +kernel
theorem dX9_map_37 : decode cX9_map 37 = .ok (.imul, 1) := by decide +kernel
theorem dX9_map_38 : decode cX9_map 38 = .ok (.iadd, 1) := by decide +kernel
theorem dX9_map_39 : decode cX9_map 39 = .ok (.iconst 2, 1) := by decide +kernel
theorem dX9_map_40 : decode cX9_map 40 = .ok (.iadd, 1) := by decide +kernel
theorem dX9_map_41 : decode cX9_map 41 = .ok (.iaload, 1) := by decide +kernel
theorem dX9_map_42 : decode cX9_map 42 = .ok (.ireturn, 1) := by decide +kernel
theorem dX9_map_43 : decode cX9_map 43 = .ok (.lconst 0, 1) := by decide +kernel
theorem dX9_map_44 : decode cX9_map 44 = .ok (.lstore 4, 2) := by decide +kernel
theorem dX9_map_46 : decode cX9_map 46 = .ok (.lconst 0, 1) := by decide +kernel
theorem dX9_map_47 : decode cX9_map 47 = .ok (.lstore 6, 2) := by decide +kernel
theorem dX9_map_49 : decode cX9_map 49 = .ok (.iconst 0, 1) := by decide +kernel
theorem dX9_map_50 : decode cX9_map 50 = .ok (.istore 8, 2) := by decide +kernel
theorem dX9_map_52 : decode cX9_map 52 = .ok (.iload 8, 2) := by decide +kernel
theorem dX9_map_54 : decode cX9_map 54 = .ok (.aload_n 0, 1) := by decide +kernel
theorem dX9_map_55 : decode cX9_map 55 = .ok (.getfield 7, 3) := by decide +kernel
theorem dX9_map_58 : decode cX9_map 58 = .ok (.iconst 3, 1) := by decide +kernel
theorem dX9_map_59 : decode cX9_map 59 = .ok (.iaload, 1) := by decide +kernel
theorem dX9_map_60 : decode cX9_map 60 = .ok (.if_icmp .ge 81, 3) := by decide +kernel
theorem dX9_map_63 : decode cX9_map 63 = .ok (.lconst 1, 1) := by decide +kernel
theorem dX9_map_64 : decode cX9_map 64 = .ok (.lstore 9, 2) := by decide +kernel
theorem dX9_map_66 : decode cX9_map 66 = .ok (.iconst 0, 1) := by decide +kernel
theorem dX9_map_67 : decode cX9_map 67 = .ok (.istore 11, 2) := by decide +kernel
theorem dX9_map_69 : decode cX9_map 69 = .ok (.iload 11, 2) := by decide +kernel
theorem dX9_map_71 : decode cX9_map 71 = .ok (.aload_n 0, 1) := by decide +kernel
theorem dX9_map_72 : decode cX9_map 72 = .ok (.getfield 7, 3) := by decide +kernel
theorem dX9_map_75 : decode cX9_map 75 = .ok (.iconst 3, 1) := by decide +kernel
theorem dX9_map_76 : decode cX9_map 76 = .ok (.iaload, 1) := by decide +kernel
theorem dX9_map_77 : decode cX9_map 77 = .ok (.if_icmp .ge 29, 3) := by decide +kernel
theorem dX9_map_80 : decode cX9_map 80 = .ok (.iload 11, 2) := by decide +kernel
theorem dX9_map_82 : decode cX9_map 82 = .ok (.iload 8, 2) := by decide +kernel
theorem dX9_map_84 : decode cX9_map 84 = .ok (.if_icmp .eq 16, 3) := by decide +kernel
theorem dX9_map_87 : decode cX9_map 87 = .ok (.lload 9, 2) := by decide +kernel
