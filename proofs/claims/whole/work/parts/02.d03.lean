theorem dX8_fewest_23 : decode cX8_fewest 23 = .ok (.ireturn, 1) := by decide +kernel
theorem dX8_fewest_24 : decode cX8_fewest 24 = .ok (.iload_n 1, 1) := by decide +kernel
theorem dX8_fewest_25 : decode cX8_fewest 25 = .ok (.iload_n 2, 1) := by decide +kernel
theorem dX8_fewest_26 : decode cX8_fewest 26 = .ok (.invokestatic 172, 3) := by decide +kernel
theorem dX8_fewest_29 : decode cX8_fewest 29 = .ok (.ireturn, 1) := by decide +kernel
theorem dX8_station_0 : decode cX8_station 0 = .ok (.iload_n 1, 1) := by decide +kernel
theorem dX8_station_1 : decode cX8_station 1 = .ok (.iload_n 2, 1) := by decide +kernel
theorem dX8_station_2 : decode cX8_station 2 = .ok (.invokestatic 175, 3) := by decide +kernel
theorem dX8_station_5 : decode cX8_station 5 = .ok (.ifCond .eq 10, 3) := by decide +kernel
theorem dX8_station_8 : decode cX8_station 8 = .ok (.iload_n 3, 1) := by decide +kernel
theorem dX8_station_9 : decode cX8_station 9 = .ok (.invokestatic 134, 3) := by decide +kernel
theorem dX8_station_12 : decode cX8_station 12 = .ok (.ifCond .ne 5, 3) := by decide +kernel
theorem dX8_station_15 : decode cX8_station 15 = .ok (.iconst (-1), 1) := by decide +kernel
theorem dX8_station_16 : decode cX8_station 16 = .ok (.ireturn, 1) := by decide +kernel
theorem dX8_station_17 : decode cX8_station 17 = .ok (.aload_n 0, 1) := by decide +kernel
theorem dX8_station_18 : decode cX8_station 18 = .ok (.getfield 10, 3) := by decide +kernel
theorem dX8_station_21 : decode cX8_station 21 = .ok (.getfield 178, 3) := by decide +kernel
theorem dX8_station_24 : decode cX8_station 24 = .ok (.iload_n 1, 1) := by decide +kernel
theorem dX8_station_25 : decode cX8_station 25 = .ok (.iload_n 2, 1) := by decide +kernel
theorem dX8_station_26 : decode cX8_station 26 = .ok (.iload_n 3, 1) := by decide +kernel
theorem dX8_station_27 : decode cX8_station 27 = .ok (.invokevirtual 182, 3) := by decide +kernel
theorem dX8_station_30 : decode cX8_station 30 = .ok (.ireturn, 1) := by decide +kernel
theorem dX8_tellStation_0 : decode cX8_tellStation 0 = .ok (.iload_n 1, 1) := by decide +kernel
theorem dX8_tellStation_1 : decode cX8_tellStation 1 = .ok (.iconst 0, 1) := by decide +kernel
theorem dX8_tellStation_2 : decode cX8_tellStation 2 = .ok (.aload_n 0, 1) := by decide +kernel
theorem dX8_tellStation_3 : decode cX8_tellStation 3 = .ok (.getfield 10, 3) := by decide +kernel
theorem dX8_tellStation_6 : decode cX8_tellStation 6 = .ok (.getfield 178, 3) := by decide +kernel
theorem dX8_tellStation_9 : decode cX8_tellStation 9 = .ok (.getfield 187, 3) := by decide +kernel
theorem dX8_tellStation_12 : decode cX8_tellStation 12 = .ok (.iconst 1, 1) := by decide +kernel
theorem dX8_tellStation_13 : decode cX8_tellStation 13 = .ok (.isub, 1) := by decide +kernel
theorem dX8_tellStation_14 : decode cX8_tellStation 14 = .ok (.invokestatic 49, 3) := by decide +kernel
theorem dX8_tellStation_17 : decode cX8_tellStation 17 = .ok (.ifCond .eq 10, 3) := by decide +kernel
theorem dX8_tellStation_20 : decode cX8_tellStation 20 = .ok (.iload_n 2, 1) := by decide +kernel
theorem dX8_tellStation_21 : decode cX8_tellStation 21 = .ok (.invokestatic 134, 3) := by decide +kernel
theorem dX8_tellStation_24 : decode cX8_tellStation 24 = .ok (.ifCond .ne 5, 3) := by decide +kernel
theorem dX8_tellStation_27 : decode cX8_tellStation 27 = .ok (.iconst 0, 1) := by decide +kernel
theorem dX8_tellStation_28 : decode cX8_tellStation 28 = .ok (.ireturn, 1) := by decide +kernel
theorem dX8_tellStation_29 : decode cX8_tellStation 29 = .ok (.aload_n 0, 1) := by decide +kernel
theorem dX8_tellStation_30 : decode cX8_tellStation 30 = .ok (.getfield 10, 3) := by decide +kernel
theorem dX8_tellStation_33 : decode cX8_tellStation 33 = .ok (.getfield 178, 3) := by decide +kernel
theorem dX8_tellStation_36 : decode cX8_tellStation 36 = .ok (.getfield 190, 3) := by decide +kernel
theorem dX8_tellStation_39 : decode cX8_tellStation 39 = .ok (.iload_n 1, 1) := by decide +kernel
theorem dX8_tellStation_40 : decode cX8_tellStation 40 = .ok (.iload_n 2, 1) := by decide +kernel
theorem dX8_tellStation_41 : decode cX8_tellStation 41 = .ok (.iastore, 1) := by decide +kernel
theorem dX8_tellStation_42 : decode cX8_tellStation 42 = .ok (.iconst 1, 1) := by decide +kernel
theorem dX8_tellStation_43 : decode cX8_tellStation 43 = .ok (.ireturn, 1) := by decide +kernel
theorem dX8_map_0 : decode cX8_map 0 = .ok (.iload_n 1, 1) := by decide +kernel
theorem dX8_map_1 : decode cX8_map 1 = .ok (.iload_n 2, 1) := by decide +kernel
theorem dX8_map_2 : decode cX8_map 2 = .ok (.invokestatic 175, 3) := by decide +kernel
theorem dX8_map_5 : decode cX8_map 5 = .ok (.ifCond .ne 5, 3) := by decide +kernel
theorem dX8_map_8 : decode cX8_map 8 = .ok (.iconst (-1), 1) := by decide +kernel
theorem dX8_map_9 : decode cX8_map 9 = .ok (.ireturn, 1) := by decide +kernel
theorem dX8_map_10 : decode cX8_map 10 = .ok (.aload_n 0, 1) := by decide +kernel
theorem dX8_map_11 : decode cX8_map 11 = .ok (.getfield 10, 3) := by decide +kernel
theorem dX8_map_14 : decode cX8_map 14 = .ok (.getfield 178, 3) := by decide +kernel
theorem dX8_map_17 : decode cX8_map 17 = .ok (.iload_n 1, 1) := by decide +kernel
theorem dX8_map_18 : decode cX8_map 18 = .ok (.iload_n 2, 1) := by decide +kernel
theorem dX8_map_19 : decode cX8_map 19 = .ok (.invokevirtual 194, 3) := by decide +kernel
theorem dX8_map_22 : decode cX8_map 22 = .ok (.ireturn, 1) := by decide +kernel
theorem dX8_count_0 : decode cX8_count 0 = .ok (.iload_n 1, 1) := by decide +kernel
theorem dX8_count_1 : decode cX8_count 1 = .ok (.tableswitch 152 0 13 #[71, 82, 93, 104, 115, 126, 152, 152, 152, 152, 137, 137, 137, 137], 71) := by decide +kernel
theorem dX8_count_72 : decode cX8_count 72 = .ok (.aload_n 0, 1) := by decide +kernel
theorem dX8_count_73 : decode cX8_count 73 = .ok (.getfield 10, 3) := by decide +kernel
theorem dX8_count_76 : decode cX8_count 76 = .ok (.getfield 178, 3) := by decide +kernel
theorem dX8_count_79 : decode cX8_count 79 = .ok (.getfield 187, 3) := by decide +kernel
theorem dX8_count_82 : decode cX8_count 82 = .ok (.ireturn, 1) := by decide +kernel
theorem dX8_count_83 : decode cX8_count 83 = .ok (.aload_n 0, 1) := by decide +kernel
theorem dX8_count_84 : decode cX8_count 84 = .ok (.getfield 10, 3) := by decide +kernel
theorem dX8_count_87 : decode cX8_count 87 = .ok (.getfield 59, 3) := by decide +kernel
theorem dX8_count_90 : decode cX8_count 90 = .ok (.getfield 195, 3) := by decide +kernel
theorem dX8_count_93 : decode cX8_count 93 = .ok (.ireturn, 1) := by decide +kernel
theorem dX8_count_94 : decode cX8_count 94 = .ok (.aload_n 0, 1) := by decide +kernel
theorem dX8_count_95 : decode cX8_count 95 = .ok (.getfield 10, 3) := by decide +kernel
theorem dX8_count_98 : decode cX8_count 98 = .ok (.getfield 59, 3) := by decide +kernel
theorem dX8_count_101 : decode cX8_count 101 = .ok (.getfield 198, 3) := by decide +kernel
theorem dX8_count_104 : decode cX8_count 104 = .ok (.ireturn, 1) := by decide +kernel
theorem dX8_count_105 : decode cX8_count 105 = .ok (.aload_n 0, 1) := by decide +kernel
theorem dX8_count_106 : decode cX8_count 106 = .ok (.getfield 10, 3) := by decide +kernel
theorem dX8_count_109 : decode cX8_count 109 = .ok (.getfield 59, 3) := by decide +kernel
theorem dX8_count_112 : decode cX8_count 112 = .ok (.getfield 87, 3) := by decide +kernel
theorem dX8_count_115 : decode cX8_count 115 = .ok (.ireturn, 1) := by decide +kernel
theorem dX8_count_116 : decode cX8_count 116 = .ok (.aload_n 0, 1) := by decide +kernel
theorem dX8_count_117 : decode cX8_count 117 = .ok (.getfield 10, 3) := by decide +kernel
theorem dX8_count_120 : decode cX8_count 120 = .ok (.getfield 137, 3) := by decide +kernel
theorem dX8_count_123 : decode cX8_count 123 = .ok (.invokevirtual 201, 3) := by decide +kernel
theorem dX8_count_126 : decode cX8_count 126 = .ok (.ireturn, 1) := by decide +kernel
theorem dX8_count_127 : decode cX8_count 127 = .ok (.aload_n 0, 1) := by decide +kernel
theorem dX8_count_128 : decode cX8_count 128 = .ok (.getfield 10, 3) := by decide +kernel
theorem dX8_count_131 : decode cX8_count 131 = .ok (.getfield 137, 3) := by decide +kernel
theorem dX8_count_134 : decode cX8_count 134 = .ok (.invokevirtual 205, 3) := by decide +kernel
theorem dX8_count_137 : decode cX8_count 137 = .ok (.ireturn, 1) := by decide +kernel
theorem dX8_count_138 : decode cX8_count 138 = .ok (.aload_n 0, 1) := by decide +kernel
theorem dX8_count_139 : decode cX8_count 139 = .ok (.getfield 10, 3) := by decide +kernel
theorem dX8_count_142 : decode cX8_count 142 = .ok (.getfield 59, 3) := by decide +kernel
theorem dX8_count_145 : decode cX8_count 145 = .ok (.iload_n 1, 1) := by decide +kernel
theorem dX8_count_146 : decode cX8_count 146 = .ok (.bipush 10, 2) := by decide +kernel
theorem dX8_count_148 : decode cX8_count 148 = .ok (.isub, 1) := by decide +kernel
theorem dX8_count_149 : decode cX8_count 149 = .ok (.invokevirtual 208, 3) := by decide +kernel
theorem dX8_count_152 : decode cX8_count 152 = .ok (.ireturn, 1) := by decide +kernel
theorem dX8_count_153 : decode cX8_count 153 = .ok (.iconst (-1), 1) := by decide +kernel
theorem dX8_count_154 : decode cX8_count 154 = .ok (.ireturn, 1) := by decide +kernel
theorem dX8_image_0 : decode cX8_image 0 = .ok (.iload_n 1, 1) := by decide +kernel
theorem dX8_image_1 : decode cX8_image 1 = .ok (.iconst 0, 1) := by decide +kernel
theorem dX8_image_2 : decode cX8_image 2 = .ok (.iconst 2, 1) := by decide +kernel
theorem dX8_image_3 : decode cX8_image 3 = .ok (.invokestatic 49, 3) := by decide +kernel
theorem dX8_image_6 : decode cX8_image 6 = .ok (.ifCond .ne 5, 3) := by decide +kernel
theorem dX8_image_9 : decode cX8_image 9 = .ok (.iconst 0, 1) := by decide +kernel
theorem dX8_image_10 : decode cX8_image 10 = .ok (.ireturn, 1) := by decide +kernel
theorem dX8_image_11 : decode cX8_image 11 = .ok (.aload_n 0, 1) := by decide +kernel
theorem dX8_image_12 : decode cX8_image 12 = .ok (.getfield 16, 3) := by decide +kernel
theorem dX8_image_15 : decode cX8_image 15 = .ok (.iload_n 1, 1) := by decide +kernel
theorem dX8_image_16 : decode cX8_image 16 = .ok (.aaload, 1) := by decide +kernel
theorem dX8_image_17 : decode cX8_image 17 = .ok (.astore_n 2, 1) := by decide +kernel
theorem dX8_image_18 : decode cX8_image 18 = .ok (.aload_n 2, 1) := by decide +kernel
theorem dX8_image_19 : decode cX8_image 19 = .ok (.ifnonnull 18, 3) := by decide +kernel
theorem dX8_image_22 : decode cX8_image 22 = .ok (.new 7, 3) := by decide +kernel
theorem dX8_image_25 : decode cX8_image 25 = .ok (.dup, 1) := by decide +kernel
theorem dX8_image_26 : decode cX8_image 26 = .ok (.invokespecial 9, 3) := by decide +kernel
theorem dX8_image_29 : decode cX8_image 29 = .ok (.astore_n 2, 1) := by decide +kernel
theorem dX8_image_30 : decode cX8_image 30 = .ok (.aload_n 0, 1) := by decide +kernel
theorem dX8_image_31 : decode cX8_image 31 = .ok (.getfield 16, 3) := by decide +kernel
theorem dX8_image_34 : decode cX8_image 34 = .ok (.iload_n 1, 1) := by decide +kernel
theorem dX8_image_35 : decode cX8_image 35 = .ok (.aload_n 2, 1) := by decide +kernel
theorem dX8_image_36 : decode cX8_image 36 = .ok (.aastore, 1) := by decide +kernel
theorem dX8_image_37 : decode cX8_image 37 = .ok (.aload_n 2, 1) := by decide +kernel
theorem dX8_image_38 : decode cX8_image 38 = .ok (.aload_n 0, 1) := by decide +kernel
theorem dX8_image_39 : decode cX8_image 39 = .ok (.getfield 10, 3) := by decide +kernel
theorem dX8_image_42 : decode cX8_image 42 = .ok (.invokevirtual 211, 3) := by decide +kernel
theorem dX8_image_45 : decode cX8_image 45 = .ok (.iconst 1, 1) := by decide +kernel
theorem dX8_image_46 : decode cX8_image 46 = .ok (.ireturn, 1) := by decide +kernel
theorem dX8_again_0 : decode cX8_again 0 = .ok (.iload_n 1, 1) := by decide +kernel
theorem dX8_again_1 : decode cX8_again 1 = .ok (.iconst 0, 1) := by decide +kernel
theorem dX8_again_2 : decode cX8_again 2 = .ok (.iconst 2, 1) := by decide +kernel
theorem dX8_again_3 : decode cX8_again 3 = .ok (.invokestatic 49, 3) := by decide +kernel
theorem dX8_again_6 : decode cX8_again 6 = .ok (.ifCond .ne 5, 3) := by decide +kernel
theorem dX8_again_9 : decode cX8_again 9 = .ok (.iconst 0, 1) := by decide +kernel
theorem dX8_again_10 : decode cX8_again 10 = .ok (.ireturn, 1) := by decide +kernel
theorem dX8_again_11 : decode cX8_again 11 = .ok (.aload_n 0, 1) := by decide +kernel
theorem dX8_again_12 : decode cX8_again 12 = .ok (.getfield 16, 3) := by decide +kernel
theorem dX8_again_15 : decode cX8_again 15 = .ok (.iload_n 1, 1) := by decide +kernel
theorem dX8_again_16 : decode cX8_again 16 = .ok (.aaload, 1) := by decide +kernel
theorem dX8_again_17 : decode cX8_again 17 = .ok (.astore_n 2, 1) := by decide +kernel
theorem dX8_again_18 : decode cX8_again 18 = .ok (.aload_n 2, 1) := by decide +kernel
theorem dX8_again_19 : decode cX8_again 19 = .ok (.ifnonnull 5, 3) := by decide +kernel
theorem dX8_again_22 : decode cX8_again 22 = .ok (.iconst 0, 1) := by decide +kernel
theorem dX8_again_23 : decode cX8_again 23 = .ok (.ireturn, 1) := by decide +kernel
theorem dX8_again_24 : decode cX8_again 24 = .ok (.aload_n 0, 1) := by decide +kernel
theorem dX8_again_25 : decode cX8_again 25 = .ok (.getfield 10, 3) := by decide +kernel
theorem dX8_again_28 : decode cX8_again 28 = .ok (.aload_n 2, 1) := by decide +kernel
theorem dX8_again_29 : decode cX8_again 29 = .ok (.invokevirtual 211, 3) := by decide +kernel
theorem dX8_again_32 : decode cX8_again 32 = .ok (.aload_n 0, 1) := by decide +kernel
theorem dX8_again_33 : decode cX8_again 33 = .ok (.invokevirtual 67, 3) := by decide +kernel
theorem dX8_again_36 : decode cX8_again 36 = .ok (.iconst 1, 1) := by decide +kernel
theorem dX8_again_37 : decode cX8_again 37 = .ok (.ireturn, 1) := by decide +kernel
theorem dX8_hasTrace_0 : decode cX8_hasTrace 0 = .ok (.iload_n 1, 1) := by decide +kernel
theorem dX8_hasTrace_1 : decode cX8_hasTrace 1 = .ok (.invokestatic 76, 3) := by decide +kernel
theorem dX8_hasTrace_4 : decode cX8_hasTrace 4 = .ok (.ifCond .ne 5, 3) := by decide +kernel
theorem dX8_hasTrace_7 : decode cX8_hasTrace 7 = .ok (.iconst 0, 1) := by decide +kernel
theorem dX8_hasTrace_8 : decode cX8_hasTrace 8 = .ok (.ireturn, 1) := by decide +kernel
theorem dX8_hasTrace_9 : decode cX8_hasTrace 9 = .ok (.aload_n 0, 1) := by decide +kernel
theorem dX8_hasTrace_10 : decode cX8_hasTrace 10 = .ok (.getfield 41, 3) := by decide +kernel
theorem dX8_hasTrace_13 : decode cX8_hasTrace 13 = .ok (.iload_n 1, 1) := by decide +kernel
theorem dX8_hasTrace_14 : decode cX8_hasTrace 14 = .ok (.if_icmp .eq 34, 3) := by decide +kernel
theorem dX8_hasTrace_17 : decode cX8_hasTrace 17 = .ok (.aload_n 0, 1) := by decide +kernel
theorem dX8_hasTrace_18 : decode cX8_hasTrace 18 = .ok (.getfield 23, 3) := by decide +kernel
theorem dX8_hasTrace_21 : decode cX8_hasTrace 21 = .ok (.aload_n 0, 1) := by decide +kernel
theorem dX8_hasTrace_22 : decode cX8_hasTrace 22 = .ok (.getfield 10, 3) := by decide +kernel
theorem dX8_hasTrace_25 : decode cX8_hasTrace 25 = .ok (.getfield 59, 3) := by decide +kernel
theorem dX8_hasTrace_28 : decode cX8_hasTrace 28 = .ok (.iload_n 1, 1) := by decide +kernel
theorem dX8_hasTrace_29 : decode cX8_hasTrace 29 = .ok (.invokevirtual 215, 3) := by decide +kernel
theorem dX8_hasTrace_32 : decode cX8_hasTrace 32 = .ok (.aload_n 0, 1) := by decide +kernel
theorem dX8_hasTrace_33 : decode cX8_hasTrace 33 = .ok (.getfield 30, 3) := by decide +kernel
theorem dX8_hasTrace_36 : decode cX8_hasTrace 36 = .ok (.aload_n 0, 1) := by decide +kernel
theorem dX8_hasTrace_37 : decode cX8_hasTrace 37 = .ok (.getfield 23, 3) := by decide +kernel
theorem dX8_hasTrace_40 : decode cX8_hasTrace 40 = .ok (.invokevirtual 218, 3) := by decide +kernel
theorem dX8_hasTrace_43 : decode cX8_hasTrace 43 = .ok (.aload_n 0, 1) := by decide +kernel
theorem dX8_hasTrace_44 : decode cX8_hasTrace 44 = .ok (.iload_n 1, 1) := by decide +kernel
theorem dX8_hasTrace_45 : decode cX8_hasTrace 45 = .ok (.putfield 41, 3) := by decide +kernel
theorem dX8_hasTrace_48 : decode cX8_hasTrace 48 = .ok (.aload_n 0, 1) := by decide +kernel
theorem dX8_hasTrace_49 : decode cX8_hasTrace 49 = .ok (.getfield 23, 3) := by decide +kernel
theorem dX8_hasTrace_52 : decode cX8_hasTrace 52 = .ok (.invokevirtual 222, 3) := by decide +kernel
theorem dX8_hasTrace_55 : decode cX8_hasTrace 55 = .ok (.ireturn, 1) := by decide +kernel
theorem dX8_forgetTrace_0 : decode cX8_forgetTrace 0 = .ok (.aload_n 0, 1) := by decide +kernel
theorem dX8_forgetTrace_1 : decode cX8_forgetTrace 1 = .ok (.iconst (-1), 1) := by decide +kernel
theorem dX8_forgetTrace_2 : decode cX8_forgetTrace 2 = .ok (.putfield 41, 3) := by decide +kernel
theorem dX8_forgetTrace_5 : decode cX8_forgetTrace 5 = .ok (.return_, 1) := by decide +kernel
theorem dX8_lastLetter_0 : decode cX8_lastLetter 0 = .ok (.aload_n 0, 1) := by decide +kernel
theorem dX8_lastLetter_1 : decode cX8_lastLetter 1 = .ok (.getfield 23, 3) := by decide +kernel
theorem dX8_lastLetter_4 : decode cX8_lastLetter 4 = .ok (.getfield 109, 3) := by decide +kernel
theorem dX8_lastLetter_7 : decode cX8_lastLetter 7 = .ok (.iconst 1, 1) := by decide +kernel
theorem dX8_lastLetter_8 : decode cX8_lastLetter 8 = .ok (.iadd, 1) := by decide +kernel
theorem dX8_lastLetter_9 : decode cX8_lastLetter 9 = .ok (.istore_n 2, 1) := by decide +kernel
theorem dX8_lastLetter_10 : decode cX8_lastLetter 10 = .ok (.iload_n 2, 1) := by decide +kernel
theorem dX8_lastLetter_11 : decode cX8_lastLetter 11 = .ok (.bipush 24, 2) := by decide +kernel
theorem dX8_lastLetter_13 : decode cX8_lastLetter 13 = .ok (.if_icmp .ge 18, 3) := by decide +kernel
theorem dX8_lastLetter_16 : decode cX8_lastLetter 16 = .ok (.aload_n 0, 1) := by decide +kernel
theorem dX8_lastLetter_17 : decode cX8_lastLetter 17 = .ok (.getfield 10, 3) := by decide +kernel
theorem dX8_lastLetter_20 : decode cX8_lastLetter 20 = .ok (.getfield 59, 3) := by decide +kernel
theorem dX8_lastLetter_23 : decode cX8_lastLetter 23 = .ok (.iload_n 1, 1) := by decide +kernel
theorem dX8_lastLetter_24 : decode cX8_lastLetter 24 = .ok (.iload_n 2, 1) := by decide +kernel
theorem dX8_lastLetter_25 : decode cX8_lastLetter 25 = .ok (.invokevirtual 97, 3) := by decide +kernel
theorem dX8_lastLetter_28 : decode cX8_lastLetter 28 = .ok (.ifCond .eq 7, 3) := by decide +kernel
theorem dX8_lastLetter_31 : decode cX8_lastLetter 31 = .ok (.iconst 1, 1) := by decide +kernel
theorem dX8_lastLetter_32 : decode cX8_lastLetter 32 = .ok (.goto 4, 3) := by decide +kernel
theorem dX8_lastLetter_35 : decode cX8_lastLetter 35 = .ok (.iconst 0, 1) := by decide +kernel
theorem dX8_lastLetter_36 : decode cX8_lastLetter 36 = .ok (.ireturn, 1) := by decide +kernel
theorem dX8_within_0 : decode cX8_within 0 = .ok (.iload_n 0, 1) := by decide +kernel
theorem dX8_within_1 : decode cX8_within 1 = .ok (.iload_n 1, 1) := by decide +kernel
theorem dX8_within_2 : decode cX8_within 2 = .ok (.if_icmp .lt 12, 3) := by decide +kernel
theorem dX8_within_5 : decode cX8_within 5 = .ok (.iload_n 0, 1) := by decide +kernel
theorem dX8_within_6 : decode cX8_within 6 = .ok (.iload_n 2, 1) := by decide +kernel
theorem dX8_within_7 : decode cX8_within 7 = .ok (.if_icmp .gt 7, 3) := by decide +kernel
theorem dX8_within_10 : decode cX8_within 10 = .ok (.iconst 1, 1) := by decide +kernel
theorem dX8_within_11 : decode cX8_within 11 = .ok (.goto 4, 3) := by decide +kernel
theorem dX8_within_14 : decode cX8_within 14 = .ok (.iconst 0, 1) := by decide +kernel
theorem dX8_within_15 : decode cX8_within 15 = .ok (.ireturn, 1) := by decide +kernel
theorem dX8_isBoard_0 : decode cX8_isBoard 0 = .ok (.iload_n 0, 1) := by decide +kernel
theorem dX8_isBoard_1 : decode cX8_isBoard 1 = .ok (.iconst 0, 1) := by decide +kernel
theorem dX8_isBoard_2 : decode cX8_isBoard 2 = .ok (.iconst 3, 1) := by decide +kernel
theorem dX8_isBoard_3 : decode cX8_isBoard 3 = .ok (.invokestatic 49, 3) := by decide +kernel
theorem dX8_isBoard_6 : decode cX8_isBoard 6 = .ok (.ireturn, 1) := by decide +kernel
theorem dX8_isTone_0 : decode cX8_isTone 0 = .ok (.iload_n 0, 1) := by decide +kernel
theorem dX8_isTone_1 : decode cX8_isTone 1 = .ok (.invokestatic 76, 3) := by decide +kernel
theorem dX8_isTone_4 : decode cX8_isTone 4 = .ok (.ifCond .eq 17, 3) := by decide +kernel
theorem dX8_isTone_7 : decode cX8_isTone 7 = .ok (.iload_n 1, 1) := by decide +kernel
theorem dX8_isTone_8 : decode cX8_isTone 8 = .ok (.iconst 0, 1) := by decide +kernel
theorem dX8_isTone_9 : decode cX8_isTone 9 = .ok (.bipush 23, 2) := by decide +kernel
theorem dX8_isTone_11 : decode cX8_isTone 11 = .ok (.invokestatic 49, 3) := by decide +kernel
theorem dX8_isTone_14 : decode cX8_isTone 14 = .ok (.ifCond .eq 7, 3) := by decide +kernel
theorem dX8_isTone_17 : decode cX8_isTone 17 = .ok (.iconst 1, 1) := by decide +kernel
theorem dX8_isTone_18 : decode cX8_isTone 18 = .ok (.goto 4, 3) := by decide +kernel
theorem dX8_isTone_21 : decode cX8_isTone 21 = .ok (.iconst 0, 1) := by decide +kernel
theorem dX8_isTone_22 : decode cX8_isTone 22 = .ok (.ireturn, 1) := by decide +kernel
theorem dX8_isPlace_0 : decode cX8_isPlace 0 = .ok (.iload_n 0, 1) := by decide +kernel
theorem dX8_isPlace_1 : decode cX8_isPlace 1 = .ok (.iload_n 1, 1) := by decide +kernel
theorem dX8_isPlace_2 : decode cX8_isPlace 2 = .ok (.invokestatic 45, 3) := by decide +kernel
theorem dX8_isPlace_5 : decode cX8_isPlace 5 = .ok (.ifCond .eq 17, 3) := by decide +kernel
theorem dX8_isPlace_8 : decode cX8_isPlace 8 = .ok (.iload_n 2, 1) := by decide +kernel
theorem dX8_isPlace_9 : decode cX8_isPlace 9 = .ok (.iconst 0, 1) := by decide +kernel
theorem dX8_isPlace_10 : decode cX8_isPlace 10 = .ok (.bipush 31, 2) := by decide +kernel
theorem dX8_isPlace_12 : decode cX8_isPlace 12 = .ok (.invokestatic 49, 3) := by decide +kernel
theorem dX8_isPlace_15 : decode cX8_isPlace 15 = .ok (.ifCond .eq 7, 3) := by decide +kernel
theorem dX8_isPlace_18 : decode cX8_isPlace 18 = .ok (.iconst 1, 1) := by decide +kernel
theorem dX8_isPlace_19 : decode cX8_isPlace 19 = .ok (.goto 4, 3) := by decide +kernel
theorem dX8_isPlace_22 : decode cX8_isPlace 22 = .ok (.iconst 0, 1) := by decide +kernel
theorem dX8_isPlace_23 : decode cX8_isPlace 23 = .ok (.ireturn, 1) := by decide +kernel
theorem dX8_isDay_0 : decode cX8_isDay 0 = .ok (.iload_n 0, 1) := by decide +kernel
theorem dX8_isDay_1 : decode cX8_isDay 1 = .ok (.iconst 0, 1) := by decide +kernel
theorem dX8_isDay_2 : decode cX8_isDay 2 = .ok (.bipush 23, 2) := by decide +kernel
theorem dX8_isDay_4 : decode cX8_isDay 4 = .ok (.invokestatic 49, 3) := by decide +kernel
theorem dX8_isDay_7 : decode cX8_isDay 7 = .ok (.ifCond .eq 17, 3) := by decide +kernel
theorem dX8_isDay_10 : decode cX8_isDay 10 = .ok (.iload_n 1, 1) := by decide +kernel
theorem dX8_isDay_11 : decode cX8_isDay 11 = .ok (.iconst 0, 1) := by decide +kernel
theorem dX8_isDay_12 : decode cX8_isDay 12 = .ok (.bipush 30, 2) := by decide +kernel
theorem dX8_isDay_14 : decode cX8_isDay 14 = .ok (.invokestatic 49, 3) := by decide +kernel
theorem dX8_isDay_17 : decode cX8_isDay 17 = .ok (.ifCond .eq 7, 3) := by decide +kernel
theorem dX8_isDay_20 : decode cX8_isDay 20 = .ok (.iconst 1, 1) := by decide +kernel
theorem dX8_isDay_21 : decode cX8_isDay 21 = .ok (.goto 4, 3) := by decide +kernel
theorem dX8_isDay_24 : decode cX8_isDay 24 = .ok (.iconst 0, 1) := by decide +kernel
theorem dX8_isDay_25 : decode cX8_isDay 25 = .ok (.ireturn, 1) := by decide +kernel
theorem dX8_isValue_0 : decode cX8_isValue 0 = .ok (.iload_n 0, 1) := by decide +kernel
theorem dX8_isValue_1 : decode cX8_isValue 1 = .ok (.iconst 0, 1) := by decide +kernel
theorem dX8_isValue_2 : decode cX8_isValue 2 = .ok (.sipush 999, 3) := by decide +kernel
theorem dX8_isValue_5 : decode cX8_isValue 5 = .ok (.invokestatic 49, 3) := by decide +kernel
theorem dX8_isValue_8 : decode cX8_isValue 8 = .ok (.ireturn, 1) := by decide +kernel
theorem dX8_isOnMap_0 : decode cX8_isOnMap 0 = .ok (.iload_n 0, 1) := by decide +kernel
theorem dX8_isOnMap_1 : decode cX8_isOnMap 1 = .ok (.iconst 0, 1) := by decide +kernel
theorem dX8_isOnMap_2 : decode cX8_isOnMap 2 = .ok (.sipush 200, 3) := by decide +kernel
theorem dX8_isOnMap_5 : decode cX8_isOnMap 5 = .ok (.invokestatic 49, 3) := by decide +kernel
theorem dX8_isOnMap_8 : decode cX8_isOnMap 8 = .ok (.ifCond .eq 18, 3) := by decide +kernel
theorem dX8_isOnMap_11 : decode cX8_isOnMap 11 = .ok (.iload_n 1, 1) := by decide +kernel
theorem dX8_isOnMap_12 : decode cX8_isOnMap 12 = .ok (.iconst 0, 1) := by decide +kernel
theorem dX8_isOnMap_13 : decode cX8_isOnMap 13 = .ok (.sipush 200, 3) := by decide +kernel
theorem dX8_isOnMap_16 : decode cX8_isOnMap 16 = .ok (.invokestatic 49, 3) := by decide +kernel
theorem dX8_isOnMap_19 : decode cX8_isOnMap 19 = .ok (.ifCond .eq 7, 3) := by decide +kernel
theorem dX8_isOnMap_22 : decode cX8_isOnMap 22 = .ok (.iconst 1, 1) := by decide +kernel
theorem dX8_isOnMap_23 : decode cX8_isOnMap 23 = .ok (.goto 4, 3) := by decide +kernel
theorem dX8_isOnMap_26 : decode cX8_isOnMap 26 = .ok (.iconst 0, 1) := by decide +kernel
theorem dX8_isOnMap_27 : decode cX8_isOnMap 27 = .ok (.ireturn, 1) := by decide +kernel
theorem dX9_init_0 : decode cX9_init 0 = .ok (.aload_n 0, 1) := by decide +kernel
theorem dX9_init_1 : decode cX9_init 1 = .ok (.invokespecial 1, 3) := by decide +kernel
theorem dX9_init_4 : decode cX9_init 4 = .ok (.aload_n 0, 1) := by decide +kernel
theorem dX9_init_5 : decode cX9_init 5 = .ok (.sipush 18368, 3) := by decide +kernel
theorem dX9_init_8 : decode cX9_init 8 = .ok (.newarray .int, 2) := by decide +kernel
theorem dX9_init_10 : decode cX9_init 10 = .ok (.putfield 7, 3) := by decide +kernel
theorem dX9_init_13 : decode cX9_init 13 = .ok (.aload_n 0, 1) := by decide +kernel
theorem dX9_init_14 : decode cX9_init 14 = .ok (.iconst 3, 1) := by decide +kernel
theorem dX9_init_15 : decode cX9_init 15 = .ok (.newarray .boolean, 2) := by decide +kernel
theorem dX9_init_17 : decode cX9_init 17 = .ok (.putfield 13, 3) := by decide +kernel
theorem dX9_init_20 : decode cX9_init 20 = .ok (.aload_n 0, 1) := by decide +kernel
theorem dX9_init_21 : decode cX9_init 21 = .ok (.sipush 768, 3) := by decide +kernel
theorem dX9_init_24 : decode cX9_init 24 = .ok (.newarray .int, 2) := by decide +kernel
theorem dX9_init_26 : decode cX9_init 26 = .ok (.putfield 17, 3) := by decide +kernel
theorem dX9_init_29 : decode cX9_init 29 = .ok (.aload_n 0, 1) := by decide +kernel
theorem dX9_init_30 : decode cX9_init 30 = .ok (.sipush 768, 3) := by decide +kernel
theorem dX9_init_33 : decode cX9_init 33 = .ok (.newarray .int, 2) := by decide +kernel
theorem dX9_init_35 : decode cX9_init 35 = .ok (.putfield 20, 3) := by decide +kernel
theorem dX9_init_38 : decode cX9_init 38 = .ok (.aload_n 0, 1) := by decide +kernel
theorem dX9_init_39 : decode cX9_init 39 = .ok (.bipush 24, 2) := by decide +kernel
theorem dX9_init_41 : decode cX9_init 41 = .ok (.newarray .boolean, 2) := by decide +kernel
theorem dX9_init_43 : decode cX9_init 43 = .ok (.putfield 23, 3) := by decide +kernel
theorem dX9_init_46 : decode cX9_init 46 = .ok (.aload_n 0, 1) := by decide +kernel
theorem dX9_init_47 : decode cX9_init 47 = .ok (.bipush 24, 2) := by decide +kernel
theorem dX9_init_49 : decode cX9_init 49 = .ok (.newarray .int, 2) := by decide +kernel
theorem dX9_init_51 : decode cX9_init 51 = .ok (.putfield 26, 3) := by decide +kernel
theorem dX9_init_54 : decode cX9_init 54 = .ok (.aload_n 0, 1) := by decide +kernel
theorem dX9_init_55 : decode cX9_init 55 = .ok (.bipush 24, 2) := by decide +kernel
theorem dX9_init_57 : decode cX9_init 57 = .ok (.newarray .int, 2) := by decide +kernel
theorem dX9_init_59 : decode cX9_init 59 = .ok (.putfield 29, 3) := by decide +kernel
theorem dX9_init_62 : decode cX9_init 62 = .ok (.aload_n 0, 1) := by decide +kernel
theorem dX9_init_63 : decode cX9_init 63 = .ok (.getfield 7, 3) := by decide +kernel
theorem dX9_init_66 : decode cX9_init 66 = .ok (.iconst 0, 1) := by decide +kernel
theorem dX9_init_67 : decode cX9_init 67 = .ok (.iconst 3, 1) := by decide +kernel
theorem dX9_init_68 : decode cX9_init 68 = .ok (.iastore, 1) := by decide +kernel
theorem dX9_init_69 : decode cX9_init 69 = .ok (.aload_n 0, 1) := by decide +kernel
theorem dX9_init_70 : decode cX9_init 70 = .ok (.getfield 7, 3) := by decide +kernel
theorem dX9_init_73 : decode cX9_init 73 = .ok (.iconst 1, 1) := by decide +kernel
theorem dX9_init_74 : decode cX9_init 74 = .ok (.bipush 20, 2) := by decide +kernel
theorem dX9_init_76 : decode cX9_init 76 = .ok (.iastore, 1) := by decide +kernel
theorem dX9_init_77 : decode cX9_init 77 = .ok (.aload_n 0, 1) := by decide +kernel
theorem dX9_init_78 : decode cX9_init 78 = .ok (.getfield 7, 3) := by decide +kernel
theorem dX9_init_81 : decode cX9_init 81 = .ok (.iconst 2, 1) := by decide +kernel
theorem dX9_init_82 : decode cX9_init 82 = .ok (.iconst 2, 1) := by decide +kernel
theorem dX9_init_83 : decode cX9_init 83 = .ok (.iastore, 1) := by decide +kernel
theorem dX9_init_84 : decode cX9_init 84 = .ok (.iconst 0, 1) := by decide +kernel
theorem dX9_init_85 : decode cX9_init 85 = .ok (.istore_n 1, 1) := by decide +kernel
theorem dX9_init_86 : decode cX9_init 86 = .ok (.iload_n 1, 1) := by decide +kernel
theorem dX9_init_87 : decode cX9_init 87 = .ok (.sipush 744, 3) := by decide +kernel
theorem dX9_init_90 : decode cX9_init 90 = .ok (.if_icmp .ge 21, 3) := by decide +kernel
theorem dX9_init_93 : decode cX9_init 93 = .ok (.aload_n 0, 1) := by decide +kernel
theorem dX9_init_94 : decode cX9_init 94 = .ok (.getfield 7, 3) := by decide +kernel
theorem dX9_init_97 : decode cX9_init 97 = .ok (.bipush 20, 2) := by decide +kernel
theorem dX9_init_99 : decode cX9_init 99 = .ok (.iconst 2, 1) := by decide +kernel
theorem dX9_init_100 : decode cX9_init 100 = .ok (.iload_n 1, 1) := by decide +kernel
theorem dX9_init_101 : decode cX9_init 101 = .ok (.imul, 1) := by decide +kernel
theorem dX9_init_102 : decode cX9_init 102 = .ok (.iadd, 1) := by decide +kernel
theorem dX9_init_103 : decode cX9_init 103 = .ok (.iconst (-1), 1) := by decide +kernel
theorem dX9_init_104 : decode cX9_init 104 = .ok (.iastore, 1) := by decide +kernel
theorem dX9_init_105 : decode cX9_init 105 = .ok (.iinc 1 1, 3) := by decide +kernel
theorem dX9_init_108 : decode cX9_init 108 = .ok (.goto (-22), 3) := by decide +kernel
theorem dX9_init_111 : decode cX9_init 111 = .ok (.return_, 1) := by decide +kernel
theorem dX9_isIn_0 : decode cX9_isIn 0 = .ok (.iload_n 0, 1) := by decide +kernel
theorem dX9_isIn_1 : decode cX9_isIn 1 = .ok (.iload_n 1, 1) := by decide +kernel
theorem dX9_isIn_2 : decode cX9_isIn 2 = .ok (.if_icmp .lt 12, 3) := by decide +kernel
theorem dX9_isIn_5 : decode cX9_isIn 5 = .ok (.iload_n 0, 1) := by decide +kernel
theorem dX9_isIn_6 : decode cX9_isIn 6 = .ok (.iload_n 2, 1) := by decide +kernel
theorem dX9_isIn_7 : decode cX9_isIn 7 = .ok (.if_icmp .gt 7, 3) := by decide +kernel
theorem dX9_isIn_10 : decode cX9_isIn 10 = .ok (.iconst 1, 1) := by decide +kernel
theorem dX9_isIn_11 : decode cX9_isIn 11 = .ok (.goto 4, 3) := by decide +kernel
theorem dX9_isIn_14 : decode cX9_isIn 14 = .ok (.iconst 0, 1) := by decide +kernel
theorem dX9_isIn_15 : decode cX9_isIn 15 = .ok (.ireturn, 1) := by decide +kernel
theorem dX9_isBoard_0 : decode cX9_isBoard 0 = .ok (.iload_n 0, 1) := by decide +kernel
theorem dX9_isBoard_1 : decode cX9_isBoard 1 = .ok (.iconst 0, 1) := by decide +kernel
theorem dX9_isBoard_2 : decode cX9_isBoard 2 = .ok (.iconst 3, 1) := by decide +kernel
theorem dX9_isBoard_3 : decode cX9_isBoard 3 = .ok (.invokestatic 32, 3) := by decide +kernel
theorem dX9_isBoard_6 : decode cX9_isBoard 6 = .ok (.ireturn, 1) := by decide +kernel
theorem dX9_isPlace_0 : decode cX9_isPlace 0 = .ok (.iload_n 0, 1) := by decide +kernel
theorem dX9_isPlace_1 : decode cX9_isPlace 1 = .ok (.invokestatic 36, 3) := by decide +kernel
theorem dX9_isPlace_4 : decode cX9_isPlace 4 = .ok (.ifCond .eq 27, 3) := by decide +kernel
theorem dX9_isPlace_7 : decode cX9_isPlace 7 = .ok (.iload_n 1, 1) := by decide +kernel
theorem dX9_isPlace_8 : decode cX9_isPlace 8 = .ok (.iconst 0, 1) := by decide +kernel
theorem dX9_isPlace_9 : decode cX9_isPlace 9 = .ok (.bipush 23, 2) := by decide +kernel
theorem dX9_isPlace_11 : decode cX9_isPlace 11 = .ok (.invokestatic 32, 3) := by decide +kernel
theorem dX9_isPlace_14 : decode cX9_isPlace 14 = .ok (.ifCond .eq 17, 3) := by decide +kernel
theorem dX9_isPlace_17 : decode cX9_isPlace 17 = .ok (.iload_n 2, 1) := by decide +kernel
theorem dX9_isPlace_18 : decode cX9_isPlace 18 = .ok (.iconst 0, 1) := by decide +kernel
theorem dX9_isPlace_19 : decode cX9_isPlace 19 = .ok (.bipush 31, 2) := by decide +kernel
theorem dX9_isPlace_21 : decode cX9_isPlace 21 = .ok (.invokestatic 32, 3) := by decide +kernel
theorem dX9_isPlace_24 : decode cX9_isPlace 24 = .ok (.ifCond .eq 7, 3) := by decide +kernel
theorem dX9_isPlace_27 : decode cX9_isPlace 27 = .ok (.iconst 1, 1) := by decide +kernel
theorem dX9_isPlace_28 : decode cX9_isPlace 28 = .ok (.goto 4, 3) := by decide +kernel
theorem dX9_isPlace_31 : decode cX9_isPlace 31 = .ok (.iconst 0, 1) := by decide +kernel
theorem dX9_isPlace_32 : decode cX9_isPlace 32 = .ok (.ireturn, 1) := by decide +kernel
theorem dX9_at_0 : decode cX9_at 0 = .ok (.sipush 1520, 3) := by decide +kernel
theorem dX9_at_3 : decode cX9_at 3 = .ok (.iload_n 0, 1) := by decide +kernel
theorem dX9_at_4 : decode cX9_at 4 = .ok (.bipush 24, 2) := by decide +kernel
theorem dX9_at_6 : decode cX9_at 6 = .ok (.imul, 1) := by decide +kernel
theorem dX9_at_7 : decode cX9_at 7 = .ok (.iload_n 1, 1) := by decide +kernel
theorem dX9_at_8 : decode cX9_at 8 = .ok (.iadd, 1) := by decide +kernel
theorem dX9_at_9 : decode cX9_at 9 = .ok (.bipush 32, 2) := by decide +kernel
theorem dX9_at_11 : decode cX9_at 11 = .ok (.imul, 1) := by decide +kernel
theorem dX9_at_12 : decode cX9_at 12 = .ok (.iadd, 1) := by decide +kernel
theorem dX9_at_13 : decode cX9_at 13 = .ok (.iload_n 2, 1) := by decide +kernel
theorem dX9_at_14 : decode cX9_at 14 = .ok (.iadd, 1) := by decide +kernel
theorem dX9_at_15 : decode cX9_at 15 = .ok (.ireturn, 1) := by decide +kernel
theorem dX9_board_0 : decode cX9_board 0 = .ok (.iload_n 1, 1) := by decide +kernel
theorem dX9_board_1 : decode cX9_board 1 = .ok (.iload_n 2, 1) := by decide +kernel
theorem dX9_board_2 : decode cX9_board 2 = .ok (.iconst 0, 1) := by decide +kernel
theorem dX9_board_3 : decode cX9_board 3 = .ok (.invokestatic 40, 3) := by decide +kernel
theorem dX9_board_6 : decode cX9_board 6 = .ok (.ifCond .eq 12, 3) := by decide +kernel
theorem dX9_board_9 : decode cX9_board 9 = .ok (.iload_n 3, 1) := by decide +kernel
theorem dX9_board_10 : decode cX9_board 10 = .ok (.iconst 0, 1) := by decide +kernel
theorem dX9_board_11 : decode cX9_board 11 = .ok (.iconst 3, 1) := by decide +kernel
theorem dX9_board_12 : decode cX9_board 12 = .ok (.invokestatic 32, 3) := by decide +kernel
theorem dX9_board_15 : decode cX9_board 15 = .ok (.ifCond .ne 5, 3) := by decide +kernel
theorem dX9_board_18 : decode cX9_board 18 = .ok (.iconst 0, 1) := by decide +kernel
theorem dX9_board_19 : decode cX9_board 19 = .ok (.ireturn, 1) := by decide +kernel
theorem dX9_board_20 : decode cX9_board 20 = .ok (.iconst 0, 1) := by decide +kernel
theorem dX9_board_21 : decode cX9_board 21 = .ok (.istore 5, 2) := by decide +kernel
theorem dX9_board_23 : decode cX9_board 23 = .ok (.iload 5, 2) := by decide +kernel
theorem dX9_board_25 : decode cX9_board 25 = .ok (.bipush 8, 2) := by decide +kernel
theorem dX9_board_27 : decode cX9_board 27 = .ok (.if_icmp .ge 29, 3) := by decide +kernel
theorem dX9_board_30 : decode cX9_board 30 = .ok (.iload 4, 2) := by decide +kernel
theorem dX9_board_32 : decode cX9_board 32 = .ok (.bipush 28, 2) := by decide +kernel
theorem dX9_board_34 : decode cX9_board 34 = .ok (.iconst 4, 1) := by decide +kernel
theorem dX9_board_35 : decode cX9_board 35 = .ok (.iload 5, 2) := by decide +kernel
theorem dX9_board_37 : decode cX9_board 37 = .ok (.imul, 1) := by decide +kernel
theorem dX9_board_38 : decode cX9_board 38 = .ok (.isub, 1) := by decide +kernel
theorem dX9_board_39 : decode cX9_board 39 = .ok (.ishr, 1) := by decide +kernel
theorem dX9_board_40 : decode cX9_board 40 = .ok (.bipush 15, 2) := by decide +kernel
theorem dX9_board_42 : decode cX9_board 42 = .ok (.iand, 1) := by decide +kernel
theorem dX9_board_43 : decode cX9_board 43 = .ok (.bipush 9, 2) := by decide +kernel
theorem dX9_board_45 : decode cX9_board 45 = .ok (.if_icmp .le 5, 3) := by decide +kernel
theorem dX9_board_48 : decode cX9_board 48 = .ok (.iconst 0, 1) := by decide +kernel
theorem dX9_board_49 : decode cX9_board 49 = .ok (.ireturn, 1) := by decide +kernel
theorem dX9_board_50 : decode cX9_board 50 = .ok (.iinc 5 1, 3) := by decide +kernel
theorem dX9_board_53 : decode cX9_board 53 = .ok (.goto (-30), 3) := by decide +kernel
theorem dX9_board_56 : decode cX9_board 56 = .ok (.iconst 0, 1) := by decide +kernel
theorem dX9_board_57 : decode cX9_board 57 = .ok (.istore 5, 2) := by decide +kernel
theorem dX9_board_59 : decode cX9_board 59 = .ok (.iload 5, 2) := by decide +kernel
theorem dX9_board_61 : decode cX9_board 61 = .ok (.bipush 8, 2) := by decide +kernel
theorem dX9_board_63 : decode cX9_board 63 = .ok (.if_icmp .ge 39, 3) := by decide +kernel
theorem dX9_board_66 : decode cX9_board 66 = .ok (.aload_n 0, 1) := by decide +kernel
theorem dX9_board_67 : decode cX9_board 67 = .ok (.getfield 7, 3) := by decide +kernel
theorem dX9_board_70 : decode cX9_board 70 = .ok (.iload_n 1, 1) := by decide +kernel
theorem dX9_board_71 : decode cX9_board 71 = .ok (.iload_n 2, 1) := by decide +kernel
theorem dX9_board_72 : decode cX9_board 72 = .ok (.bipush 8, 2) := by decide +kernel
theorem dX9_board_74 : decode cX9_board 74 = .ok (.iload_n 3, 1) := by decide +kernel
theorem dX9_board_75 : decode cX9_board 75 = .ok (.imul, 1) := by decide +kernel
theorem dX9_board_76 : decode cX9_board 76 = .ok (.iload 5, 2) := by decide +kernel
theorem dX9_board_78 : decode cX9_board 78 = .ok (.iadd, 1) := by decide +kernel
theorem dX9_board_79 : decode cX9_board 79 = .ok (.invokestatic 43, 3) := by decide +kernel
theorem dX9_board_82 : decode cX9_board 82 = .ok (.iload 4, 2) := by decide +kernel
theorem dX9_board_84 : decode cX9_board 84 = .ok (.bipush 28, 2) := by decide +kernel
theorem dX9_board_86 : decode cX9_board 86 = .ok (.iconst 4, 1) := by decide +kernel
theorem dX9_board_87 : decode cX9_board 87 = .ok (.iload 5, 2) := by decide +kernel
theorem dX9_board_89 : decode cX9_board 89 = .ok (.imul, 1) := by decide +kernel
theorem dX9_board_90 : decode cX9_board 90 = .ok (.isub, 1) := by decide +kernel
theorem dX9_board_91 : decode cX9_board 91 = .ok (.ishr, 1) := by decide +kernel
theorem dX9_board_92 : decode cX9_board 92 = .ok (.bipush 15, 2) := by decide +kernel
theorem dX9_board_94 : decode cX9_board 94 = .ok (.iand, 1) := by decide +kernel
theorem dX9_board_95 : decode cX9_board 95 = .ok (.iastore, 1) := by decide +kernel
theorem dX9_board_96 : decode cX9_board 96 = .ok (.iinc 5 1, 3) := by decide +kernel
theorem dX9_board_99 : decode cX9_board 99 = .ok (.goto (-40), 3) := by decide +kernel
theorem dX9_board_102 : decode cX9_board 102 = .ok (.iconst 1, 1) := by decide +kernel
theorem dX9_board_103 : decode cX9_board 103 = .ok (.ireturn, 1) := by decide +kernel
theorem dX9_echo_0 : decode cX9_echo 0 = .ok (.iload_n 1, 1) := by decide +kernel
theorem dX9_echo_1 : decode cX9_echo 1 = .ok (.iload_n 2, 1) := by decide +kernel
theorem dX9_echo_2 : decode cX9_echo 2 = .ok (.iload_n 3, 1) := by decide +kernel
theorem dX9_echo_3 : decode cX9_echo 3 = .ok (.invokestatic 40, 3) := by decide +kernel
theorem dX9_echo_6 : decode cX9_echo 6 = .ok (.ifCond .eq 14, 3) := by decide +kernel
theorem dX9_echo_9 : decode cX9_echo 9 = .ok (.iload 4, 2) := by decide +kernel
theorem dX9_echo_11 : decode cX9_echo 11 = .ok (.iconst 0, 1) := by decide +kernel
theorem dX9_echo_12 : decode cX9_echo 12 = .ok (.bipush 9, 2) := by decide +kernel
theorem dX9_echo_14 : decode cX9_echo 14 = .ok (.invokestatic 32, 3) := by decide +kernel
theorem dX9_echo_17 : decode cX9_echo 17 = .ok (.ifCond .ne 5, 3) := by decide +kernel
theorem dX9_echo_20 : decode cX9_echo 20 = .ok (.iconst 0, 1) := by decide +kernel
theorem dX9_echo_21 : decode cX9_echo 21 = .ok (.ireturn, 1) := by decide +kernel
theorem dX9_echo_22 : decode cX9_echo 22 = .ok (.aload_n 0, 1) := by decide +kernel
theorem dX9_echo_23 : decode cX9_echo 23 = .ok (.getfield 7, 3) := by decide +kernel
theorem dX9_echo_26 : decode cX9_echo 26 = .ok (.iload_n 1, 1) := by decide +kernel
theorem dX9_echo_27 : decode cX9_echo 27 = .ok (.iload_n 2, 1) := by decide +kernel
theorem dX9_echo_28 : decode cX9_echo 28 = .ok (.iload_n 3, 1) := by decide +kernel
theorem dX9_echo_29 : decode cX9_echo 29 = .ok (.invokestatic 43, 3) := by decide +kernel
theorem dX9_echo_32 : decode cX9_echo 32 = .ok (.iload 4, 2) := by decide +kernel
theorem dX9_echo_34 : decode cX9_echo 34 = .ok (.iastore, 1) := by decide +kernel
theorem dX9_echo_35 : decode cX9_echo 35 = .ok (.iconst 1, 1) := by decide +kernel
theorem dX9_echo_36 : decode cX9_echo 36 = .ok (.ireturn, 1) := by decide +kernel
theorem dX9_blank_0 : decode cX9_blank 0 = .ok (.iload_n 1, 1) := by decide +kernel
theorem dX9_blank_1 : decode cX9_blank 1 = .ok (.invokestatic 36, 3) := by decide +kernel
theorem dX9_blank_4 : decode cX9_blank 4 = .ok (.ifCond .ne 5, 3) := by decide +kernel
theorem dX9_blank_7 : decode cX9_blank 7 = .ok (.iconst 0, 1) := by decide +kernel
theorem dX9_blank_8 : decode cX9_blank 8 = .ok (.ireturn, 1) := by decide +kernel
theorem dX9_blank_9 : decode cX9_blank 9 = .ok (.iconst 0, 1) := by decide +kernel
theorem dX9_blank_10 : decode cX9_blank 10 = .ok (.istore_n 2, 1) := by decide +kernel
theorem dX9_blank_11 : decode cX9_blank 11 = .ok (.iload_n 2, 1) := by decide +kernel
theorem dX9_blank_12 : decode cX9_blank 12 = .ok (.sipush 768, 3) := by decide +kernel
theorem dX9_blank_15 : decode cX9_blank 15 = .ok (.if_icmp .ge 23, 3) := by decide +kernel
theorem dX9_blank_18 : decode cX9_blank 18 = .ok (.aload_n 0, 1) := by decide +kernel
theorem dX9_blank_19 : decode cX9_blank 19 = .ok (.getfield 7, 3) := by decide +kernel
theorem dX9_blank_22 : decode cX9_blank 22 = .ok (.iload_n 1, 1) := by decide +kernel
theorem dX9_blank_23 : decode cX9_blank 23 = .ok (.iconst 0, 1) := by decide +kernel
theorem dX9_blank_24 : decode cX9_blank 24 = .ok (.iconst 0, 1) := by decide +kernel
theorem dX9_blank_25 : decode cX9_blank 25 = .ok (.invokestatic 43, 3) := by decide +kernel
theorem dX9_blank_28 : decode cX9_blank 28 = .ok (.iload_n 2, 1) := by decide +kernel
theorem dX9_blank_29 : decode cX9_blank 29 = .ok (.iadd, 1) := by decide +kernel
theorem dX9_blank_30 : decode cX9_blank 30 = .ok (.iconst 0, 1) := by decide +kernel
theorem dX9_blank_31 : decode cX9_blank 31 = .ok (.iastore, 1) := by decide +kernel
theorem dX9_blank_32 : decode cX9_blank 32 = .ok (.iinc 2 1, 3) := by decide +kernel
theorem dX9_blank_35 : decode cX9_blank 35 = .ok (.goto (-24), 3) := by decide +kernel
theorem dX9_blank_38 : decode cX9_blank 38 = .ok (.iconst 1, 1) := by decide +kernel
theorem dX9_blank_39 : decode cX9_blank 39 = .ok (.ireturn, 1) := by decide +kernel
theorem dX9_noise_0 : decode cX9_noise 0 = .ok (.iload_n 1, 1) := by decide +kernel
theorem dX9_noise_1 : decode cX9_noise 1 = .ok (.iconst 1, 1) := by decide +kernel
theorem dX9_noise_2 : decode cX9_noise 2 = .ok (.bipush 9, 2) := by decide +kernel
theorem dX9_noise_4 : decode cX9_noise 4 = .ok (.invokestatic 32, 3) := by decide +kernel
theorem dX9_noise_7 : decode cX9_noise 7 = .ok (.ifCond .eq 13, 3) := by decide +kernel
theorem dX9_noise_10 : decode cX9_noise 10 = .ok (.iload_n 2, 1) := by decide +kernel
theorem dX9_noise_11 : decode cX9_noise 11 = .ok (.iconst 1, 1) := by decide +kernel
theorem dX9_noise_12 : decode cX9_noise 12 = .ok (.bipush 32, 2) := by decide +kernel
theorem dX9_noise_14 : decode cX9_noise 14 = .ok (.invokestatic 32, 3) := by decide +kernel
theorem dX9_noise_17 : decode cX9_noise 17 = .ok (.ifCond .ne 5, 3) := by decide +kernel
theorem dX9_noise_20 : decode cX9_noise 20 = .ok (.iconst 0, 1) := by decide +kernel
theorem dX9_noise_21 : decode cX9_noise 21 = .ok (.ireturn, 1) := by decide +kernel
theorem dX9_noise_22 : decode cX9_noise 22 = .ok (.aload_n 0, 1) := by decide +kernel
theorem dX9_noise_23 : decode cX9_noise 23 = .ok (.getfield 7, 3) := by decide +kernel
theorem dX9_noise_26 : decode cX9_noise 26 = .ok (.iconst 0, 1) := by decide +kernel
theorem dX9_noise_27 : decode cX9_noise 27 = .ok (.iload_n 1, 1) := by decide +kernel
theorem dX9_noise_28 : decode cX9_noise 28 = .ok (.iastore, 1) := by decide +kernel
theorem dX9_noise_29 : decode cX9_noise 29 = .ok (.aload_n 0, 1) := by decide +kernel
theorem dX9_noise_30 : decode cX9_noise 30 = .ok (.getfield 7, 3) := by decide +kernel
theorem dX9_noise_33 : decode cX9_noise 33 = .ok (.iconst 1, 1) := by decide +kernel
theorem dX9_noise_34 : decode cX9_noise 34 = .ok (.iload_n 2, 1) := by decide +kernel
theorem dX9_noise_35 : decode cX9_noise 35 = .ok (.iastore, 1) := by decide +kernel
theorem dX9_noise_36 : decode cX9_noise 36 = .ok (.iconst 1, 1) := by decide +kernel
theorem dX9_noise_37 : decode cX9_noise 37 = .ok (.ireturn, 1) := by decide +kernel
theorem dX9_shift_0 : decode cX9_shift 0 = .ok (.iload_n 1, 1) := by decide +kernel
theorem dX9_shift_1 : decode cX9_shift 1 = .ok (.iconst 1, 1) := by decide +kernel
theorem dX9_shift_2 : decode cX9_shift 2 = .ok (.bipush 8, 2) := by decide +kernel
theorem dX9_shift_4 : decode cX9_shift 4 = .ok (.invokestatic 32, 3) := by decide +kernel
theorem dX9_shift_7 : decode cX9_shift 7 = .ok (.ifCond .ne 5, 3) := by decide +kernel
theorem dX9_shift_10 : decode cX9_shift 10 = .ok (.iconst 0, 1) := by decide +kernel
theorem dX9_shift_11 : decode cX9_shift 11 = .ok (.ireturn, 1) := by decide +kernel
theorem dX9_shift_12 : decode cX9_shift 12 = .ok (.aload_n 0, 1) := by decide +kernel
theorem dX9_shift_13 : decode cX9_shift 13 = .ok (.getfield 7, 3) := by decide +kernel
theorem dX9_shift_16 : decode cX9_shift 16 = .ok (.iconst 2, 1) := by decide +kernel
theorem dX9_shift_17 : decode cX9_shift 17 = .ok (.iload_n 1, 1) := by decide +kernel
theorem dX9_shift_18 : decode cX9_shift 18 = .ok (.iastore, 1) := by decide +kernel
theorem dX9_shift_19 : decode cX9_shift 19 = .ok (.iconst 1, 1) := by decide +kernel
theorem dX9_shift_20 : decode cX9_shift 20 = .ok (.ireturn, 1) := by decide +kernel
theorem dX9_isBarred_0 : decode cX9_isBarred 0 = .ok (.iconst 0, 1) := by decide +kernel
theorem dX9_isBarred_1 : decode cX9_isBarred 1 = .ok (.istore_n 3, 1) := by decide +kernel
theorem dX9_isBarred_2 : decode cX9_isBarred 2 = .ok (.iconst 0, 1) := by decide +kernel
theorem dX9_isBarred_3 : decode cX9_isBarred 3 = .ok (.istore 4, 2) := by decide +kernel
theorem dX9_isBarred_5 : decode cX9_isBarred 5 = .ok (.iload 4, 2) := by decide +kernel
theorem dX9_isBarred_7 : decode cX9_isBarred 7 = .ok (.bipush 32, 2) := by decide +kernel
theorem dX9_isBarred_9 : decode cX9_isBarred 9 = .ok (.if_icmp .ge 38, 3) := by decide +kernel
theorem dX9_isBarred_12 : decode cX9_isBarred 12 = .ok (.iload_n 3, 1) := by decide +kernel
theorem dX9_isBarred_13 : decode cX9_isBarred 13 = .ok (.aload_n 0, 1) := by decide +kernel
theorem dX9_isBarred_14 : decode cX9_isBarred 14 = .ok (.getfield 7, 3) := by decide +kernel
theorem dX9_isBarred_17 : decode cX9_isBarred 17 = .ok (.iload_n 1, 1) := by decide +kernel
theorem dX9_isBarred_18 : decode cX9_isBarred 18 = .ok (.iload_n 2, 1) := by decide +kernel
theorem dX9_isBarred_19 : decode cX9_isBarred 19 = .ok (.iload 4, 2) := by decide +kernel
theorem dX9_isBarred_21 : decode cX9_isBarred 21 = .ok (.invokestatic 43, 3) := by decide +kernel
theorem dX9_isBarred_24 : decode cX9_isBarred 24 = .ok (.iaload, 1) := by decide +kernel
theorem dX9_isBarred_25 : decode cX9_isBarred 25 = .ok (.aload_n 0, 1) := by decide +kernel
theorem dX9_isBarred_26 : decode cX9_isBarred 26 = .ok (.getfield 7, 3) := by decide +kernel
theorem dX9_isBarred_29 : decode cX9_isBarred 29 = .ok (.iconst 0, 1) := by decide +kernel
theorem dX9_isBarred_30 : decode cX9_isBarred 30 = .ok (.iaload, 1) := by decide +kernel
theorem dX9_isBarred_31 : decode cX9_isBarred 31 = .ok (.if_icmp .lt 7, 3) := by decide +kernel
theorem dX9_isBarred_34 : decode cX9_isBarred 34 = .ok (.iconst 1, 1) := by decide +kernel
theorem dX9_isBarred_35 : decode cX9_isBarred 35 = .ok (.goto 4, 3) := by decide +kernel
theorem dX9_isBarred_38 : decode cX9_isBarred 38 = .ok (.iconst 0, 1) := by decide +kernel
theorem dX9_isBarred_39 : decode cX9_isBarred 39 = .ok (.iadd, 1) := by decide +kernel
theorem dX9_isBarred_40 : decode cX9_isBarred 40 = .ok (.istore_n 3, 1) := by decide +kernel
theorem dX9_isBarred_41 : decode cX9_isBarred 41 = .ok (.iinc 4 1, 3) := by decide +kernel
theorem dX9_isBarred_44 : decode cX9_isBarred 44 = .ok (.goto (-39), 3) := by decide +kernel
theorem dX9_isBarred_47 : decode cX9_isBarred 47 = .ok (.iload_n 3, 1) := by decide +kernel
theorem dX9_isBarred_48 : decode cX9_isBarred 48 = .ok (.aload_n 0, 1) := by decide +kernel
theorem dX9_isBarred_49 : decode cX9_isBarred 49 = .ok (.getfield 7, 3) := by decide +kernel
theorem dX9_isBarred_52 : decode cX9_isBarred 52 = .ok (.iconst 1, 1) := by decide +kernel
theorem dX9_isBarred_53 : decode cX9_isBarred 53 = .ok (.iaload, 1) := by decide +kernel
theorem dX9_isBarred_54 : decode cX9_isBarred 54 = .ok (.if_icmp .lt 7, 3) := by decide +kernel
theorem dX9_isBarred_57 : decode cX9_isBarred 57 = .ok (.iconst 1, 1) := by decide +kernel
theorem dX9_isBarred_58 : decode cX9_isBarred 58 = .ok (.goto 4, 3) := by decide +kernel
theorem dX9_isBarred_61 : decode cX9_isBarred 61 = .ok (.iconst 0, 1) := by decide +kernel
theorem dX9_isBarred_62 : decode cX9_isBarred 62 = .ok (.ireturn, 1) := by decide +kernel
theorem dX9_echoOf_0 : decode cX9_echoOf 0 = .ok (.iload_n 2, 1) := by decide +kernel
theorem dX9_echoOf_1 : decode cX9_echoOf 1 = .ok (.bipush 24, 2) := by decide +kernel
theorem dX9_echoOf_3 : decode cX9_echoOf 3 = .ok (.if_icmp .ge 26, 3) := by decide +kernel
theorem dX9_echoOf_6 : decode cX9_echoOf 6 = .ok (.aload_n 0, 1) := by decide +kernel
theorem dX9_echoOf_7 : decode cX9_echoOf 7 = .ok (.iload_n 1, 1) := by decide +kernel
theorem dX9_echoOf_8 : decode cX9_echoOf 8 = .ok (.iload_n 2, 1) := by decide +kernel
theorem dX9_echoOf_9 : decode cX9_echoOf 9 = .ok (.invokevirtual 47, 3) := by decide +kernel
theorem dX9_echoOf_12 : decode cX9_echoOf 12 = .ok (.ifCond .ne 17, 3) := by decide +kernel
theorem dX9_echoOf_15 : decode cX9_echoOf 15 = .ok (.aload_n 0, 1) := by decide +kernel
theorem dX9_echoOf_16 : decode cX9_echoOf 16 = .ok (.getfield 7, 3) := by decide +kernel
theorem dX9_echoOf_19 : decode cX9_echoOf 19 = .ok (.iload_n 1, 1) := by decide +kernel
theorem dX9_echoOf_20 : decode cX9_echoOf 20 = .ok (.iload_n 2, 1) := by decide +kernel
theorem dX9_echoOf_21 : decode cX9_echoOf 21 = .ok (.iload_n 3, 1) := by decide +kernel
theorem dX9_echoOf_22 : decode cX9_echoOf 22 = .ok (.invokestatic 43, 3) := by decide +kernel
theorem dX9_echoOf_25 : decode cX9_echoOf 25 = .ok (.iaload, 1) := by decide +kernel
theorem dX9_echoOf_26 : decode cX9_echoOf 26 = .ok (.goto 4, 3) := by decide +kernel
theorem dX9_echoOf_29 : decode cX9_echoOf 29 = .ok (.iconst 0, 1) := by decide +kernel
theorem dX9_echoOf_30 : decode cX9_echoOf 30 = .ok (.ireturn, 1) := by decide +kernel
theorem dX9_worth_0 : decode cX9_worth 0 = .ok (.aload_n 0, 1) := by decide +kernel
theorem dX9_worth_1 : decode cX9_worth 1 = .ok (.iload_n 1, 1) := by decide +kernel
theorem dX9_worth_2 : decode cX9_worth 2 = .ok (.iload_n 2, 1) := by decide +kernel
theorem dX9_worth_3 : decode cX9_worth 3 = .ok (.iload_n 3, 1) := by decide +kernel
theorem dX9_worth_4 : decode cX9_worth 4 = .ok (.invokevirtual 51, 3) := by decide +kernel
theorem dX9_worth_7 : decode cX9_worth 7 = .ok (.aload_n 0, 1) := by decide +kernel
theorem dX9_worth_8 : decode cX9_worth 8 = .ok (.iload_n 1, 1) := by decide +kernel
theorem dX9_worth_9 : decode cX9_worth 9 = .ok (.iload_n 2, 1) := by decide +kernel
theorem dX9_worth_10 : decode cX9_worth 10 = .ok (.aload_n 0, 1) := by decide +kernel
theorem dX9_worth_11 : decode cX9_worth 11 = .ok (.getfield 7, 3) := by decide +kernel
theorem dX9_worth_14 : decode cX9_worth 14 = .ok (.iconst 2, 1) := by decide +kernel
theorem dX9_worth_15 : decode cX9_worth 15 = .ok (.iaload, 1) := by decide +kernel
theorem dX9_worth_16 : decode cX9_worth 16 = .ok (.iadd, 1) := by decide +kernel
theorem dX9_worth_17 : decode cX9_worth 17 = .ok (.iload_n 3, 1) := by decide +kernel
theorem dX9_worth_18 : decode cX9_worth 18 = .ok (.invokevirtual 51, 3) := by decide +kernel
