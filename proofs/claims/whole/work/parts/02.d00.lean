theorem dX0_init_0 : decode cX0_init 0 = .ok (.aload_n 0, 1) := by decide +kernel
theorem dX0_init_1 : decode cX0_init 1 = .ok (.invokespecial 3, 3) := by decide +kernel
theorem dX0_init_4 : decode cX0_init 4 = .ok (.aload_n 0, 1) := by decide +kernel
theorem dX0_init_5 : decode cX0_init 5 = .ok (.sipush 384, 3) := by decide +kernel
theorem dX0_init_8 : decode cX0_init 8 = .ok (.newarray .int, 2) := by decide +kernel
theorem dX0_init_10 : decode cX0_init 10 = .ok (.putfield 9, 3) := by decide +kernel
theorem dX0_init_13 : decode cX0_init 13 = .ok (.aload_n 0, 1) := by decide +kernel
theorem dX0_init_14 : decode cX0_init 14 = .ok (.iconst 4, 1) := by decide +kernel
theorem dX0_init_15 : decode cX0_init 15 = .ok (.newarray .int, 2) := by decide +kernel
theorem dX0_init_17 : decode cX0_init 17 = .ok (.putfield 15, 3) := by decide +kernel
theorem dX0_init_20 : decode cX0_init 20 = .ok (.aload_n 0, 1) := by decide +kernel
theorem dX0_init_21 : decode cX0_init 21 = .ok (.iconst 3, 1) := by decide +kernel
theorem dX0_init_22 : decode cX0_init 22 = .ok (.putfield 18, 3) := by decide +kernel
theorem dX0_init_25 : decode cX0_init 25 = .ok (.aload_n 0, 1) := by decide +kernel
theorem dX0_init_26 : decode cX0_init 26 = .ok (.bipush 20, 2) := by decide +kernel
theorem dX0_init_28 : decode cX0_init 28 = .ok (.putfield 22, 3) := by decide +kernel
theorem dX0_init_31 : decode cX0_init 31 = .ok (.aload_n 0, 1) := by decide +kernel
theorem dX0_init_32 : decode cX0_init 32 = .ok (.iconst 2, 1) := by decide +kernel
theorem dX0_init_33 : decode cX0_init 33 = .ok (.putfield 25, 3) := by decide +kernel
theorem dX0_init_36 : decode cX0_init 36 = .ok (.return_, 1) := by decide +kernel
theorem dX0_areEchoes_0 : decode cX0_areEchoes 0 = .ok (.iconst 0, 1) := by decide +kernel
theorem dX0_areEchoes_1 : decode cX0_areEchoes 1 = .ok (.istore_n 1, 1) := by decide +kernel
theorem dX0_areEchoes_2 : decode cX0_areEchoes 2 = .ok (.iload_n 1, 1) := by decide +kernel
theorem dX0_areEchoes_3 : decode cX0_areEchoes 3 = .ok (.bipush 8, 2) := by decide +kernel
theorem dX0_areEchoes_5 : decode cX0_areEchoes 5 = .ok (.if_icmp .ge 24, 3) := by decide +kernel
theorem dX0_areEchoes_8 : decode cX0_areEchoes 8 = .ok (.iload_n 0, 1) := by decide +kernel
theorem dX0_areEchoes_9 : decode cX0_areEchoes 9 = .ok (.iconst 4, 1) := by decide +kernel
theorem dX0_areEchoes_10 : decode cX0_areEchoes 10 = .ok (.iload_n 1, 1) := by decide +kernel
theorem dX0_areEchoes_11 : decode cX0_areEchoes 11 = .ok (.imul, 1) := by decide +kernel
theorem dX0_areEchoes_12 : decode cX0_areEchoes 12 = .ok (.iushr, 1) := by decide +kernel
theorem dX0_areEchoes_13 : decode cX0_areEchoes 13 = .ok (.bipush 15, 2) := by decide +kernel
theorem dX0_areEchoes_15 : decode cX0_areEchoes 15 = .ok (.iand, 1) := by decide +kernel
theorem dX0_areEchoes_16 : decode cX0_areEchoes 16 = .ok (.bipush 9, 2) := by decide +kernel
theorem dX0_areEchoes_18 : decode cX0_areEchoes 18 = .ok (.if_icmp .le 5, 3) := by decide +kernel
theorem dX0_areEchoes_21 : decode cX0_areEchoes 21 = .ok (.iconst 0, 1) := by decide +kernel
theorem dX0_areEchoes_22 : decode cX0_areEchoes 22 = .ok (.ireturn, 1) := by decide +kernel
theorem dX0_areEchoes_23 : decode cX0_areEchoes 23 = .ok (.iinc 1 1, 3) := by decide +kernel
theorem dX0_areEchoes_26 : decode cX0_areEchoes 26 = .ok (.goto (-24), 3) := by decide +kernel
theorem dX0_areEchoes_29 : decode cX0_areEchoes 29 = .ok (.iconst 1, 1) := by decide +kernel
theorem dX0_areEchoes_30 : decode cX0_areEchoes 30 = .ok (.ireturn, 1) := by decide +kernel
theorem dX0_rowOf_0 : decode cX0_rowOf 0 = .ok (.iload_n 0, 1) := by decide +kernel
theorem dX0_rowOf_1 : decode cX0_rowOf 1 = .ok (.bipush 24, 2) := by decide +kernel
theorem dX0_rowOf_3 : decode cX0_rowOf 3 = .ok (.imul, 1) := by decide +kernel
theorem dX0_rowOf_4 : decode cX0_rowOf 4 = .ok (.iload_n 1, 1) := by decide +kernel
theorem dX0_rowOf_5 : decode cX0_rowOf 5 = .ok (.iadd, 1) := by decide +kernel
theorem dX0_rowOf_6 : decode cX0_rowOf 6 = .ok (.iconst 4, 1) := by decide +kernel
theorem dX0_rowOf_7 : decode cX0_rowOf 7 = .ok (.imul, 1) := by decide +kernel
theorem dX0_rowOf_8 : decode cX0_rowOf 8 = .ok (.iload_n 2, 1) := by decide +kernel
theorem dX0_rowOf_9 : decode cX0_rowOf 9 = .ok (.iadd, 1) := by decide +kernel
theorem dX0_rowOf_10 : decode cX0_rowOf 10 = .ok (.ireturn, 1) := by decide +kernel
theorem dX0_bitsBehind_0 : decode cX0_bitsBehind 0 = .ok (.iconst 4, 1) := by decide +kernel
theorem dX0_bitsBehind_1 : decode cX0_bitsBehind 1 = .ok (.bipush 7, 2) := by decide +kernel
theorem dX0_bitsBehind_3 : decode cX0_bitsBehind 3 = .ok (.iload_n 0, 1) := by decide +kernel
theorem dX0_bitsBehind_4 : decode cX0_bitsBehind 4 = .ok (.bipush 8, 2) := by decide +kernel
theorem dX0_bitsBehind_6 : decode cX0_bitsBehind 6 = .ok (.irem, 1) := by decide +kernel
theorem dX0_bitsBehind_7 : decode cX0_bitsBehind 7 = .ok (.isub, 1) := by decide +kernel
theorem dX0_bitsBehind_8 : decode cX0_bitsBehind 8 = .ok (.imul, 1) := by decide +kernel
theorem dX0_bitsBehind_9 : decode cX0_bitsBehind 9 = .ok (.ireturn, 1) := by decide +kernel
theorem dX0_echoAt_0 : decode cX0_echoAt 0 = .ok (.aload_n 0, 1) := by decide +kernel
theorem dX0_echoAt_1 : decode cX0_echoAt 1 = .ok (.getfield 9, 3) := by decide +kernel
theorem dX0_echoAt_4 : decode cX0_echoAt 4 = .ok (.iload_n 1, 1) := by decide +kernel
theorem dX0_echoAt_5 : decode cX0_echoAt 5 = .ok (.iload_n 2, 1) := by decide +kernel
theorem dX0_echoAt_6 : decode cX0_echoAt 6 = .ok (.iload_n 3, 1) := by decide +kernel
theorem dX0_echoAt_7 : decode cX0_echoAt 7 = .ok (.bipush 8, 2) := by decide +kernel
theorem dX0_echoAt_9 : decode cX0_echoAt 9 = .ok (.idiv, 1) := by decide +kernel
theorem dX0_echoAt_10 : decode cX0_echoAt 10 = .ok (.invokestatic 28, 3) := by decide +kernel
theorem dX0_echoAt_13 : decode cX0_echoAt 13 = .ok (.iaload, 1) := by decide +kernel
theorem dX0_echoAt_14 : decode cX0_echoAt 14 = .ok (.istore 4, 2) := by decide +kernel
theorem dX0_echoAt_16 : decode cX0_echoAt 16 = .ok (.iload 4, 2) := by decide +kernel
theorem dX0_echoAt_18 : decode cX0_echoAt 18 = .ok (.iload_n 3, 1) := by decide +kernel
theorem dX0_echoAt_19 : decode cX0_echoAt 19 = .ok (.invokestatic 32, 3) := by decide +kernel
theorem dX0_echoAt_22 : decode cX0_echoAt 22 = .ok (.iushr, 1) := by decide +kernel
theorem dX0_echoAt_23 : decode cX0_echoAt 23 = .ok (.bipush 15, 2) := by decide +kernel
theorem dX0_echoAt_25 : decode cX0_echoAt 25 = .ok (.iand, 1) := by decide +kernel
theorem dX0_echoAt_26 : decode cX0_echoAt 26 = .ok (.ireturn, 1) := by decide +kernel
theorem dX0_putEight_0 : decode cX0_putEight 0 = .ok (.aload_n 0, 1) := by decide +kernel
theorem dX0_putEight_1 : decode cX0_putEight 1 = .ok (.getfield 9, 3) := by decide +kernel
theorem dX0_putEight_4 : decode cX0_putEight 4 = .ok (.iload_n 1, 1) := by decide +kernel
theorem dX0_putEight_5 : decode cX0_putEight 5 = .ok (.iload_n 2, 1) := by decide +kernel
theorem dX0_putEight_6 : decode cX0_putEight 6 = .ok (.iload_n 3, 1) := by decide +kernel
theorem dX0_putEight_7 : decode cX0_putEight 7 = .ok (.invokestatic 28, 3) := by decide +kernel
theorem dX0_putEight_10 : decode cX0_putEight 10 = .ok (.iload 4, 2) := by decide +kernel
theorem dX0_putEight_12 : decode cX0_putEight 12 = .ok (.iastore, 1) := by decide +kernel
theorem dX0_putEight_13 : decode cX0_putEight 13 = .ok (.aload_n 0, 1) := by decide +kernel
theorem dX0_putEight_14 : decode cX0_putEight 14 = .ok (.iload_n 1, 1) := by decide +kernel
theorem dX0_putEight_15 : decode cX0_putEight 15 = .ok (.iload_n 2, 1) := by decide +kernel
theorem dX0_putEight_16 : decode cX0_putEight 16 = .ok (.invokevirtual 36, 3) := by decide +kernel
theorem dX0_putEight_19 : decode cX0_putEight 19 = .ok (.return_, 1) := by decide +kernel
theorem dX0_putEcho_0 : decode cX0_putEcho 0 = .ok (.iload_n 1, 1) := by decide +kernel
theorem dX0_putEcho_1 : decode cX0_putEcho 1 = .ok (.iload_n 2, 1) := by decide +kernel
theorem dX0_putEcho_2 : decode cX0_putEcho 2 = .ok (.iload_n 3, 1) := by decide +kernel
theorem dX0_putEcho_3 : decode cX0_putEcho 3 = .ok (.bipush 8, 2) := by decide +kernel
theorem dX0_putEcho_5 : decode cX0_putEcho 5 = .ok (.idiv, 1) := by decide +kernel
theorem dX0_putEcho_6 : decode cX0_putEcho 6 = .ok (.invokestatic 28, 3) := by decide +kernel
theorem dX0_putEcho_9 : decode cX0_putEcho 9 = .ok (.istore 5, 2) := by decide +kernel
theorem dX0_putEcho_11 : decode cX0_putEcho 11 = .ok (.iload_n 3, 1) := by decide +kernel
theorem dX0_putEcho_12 : decode cX0_putEcho 12 = .ok (.invokestatic 32, 3) := by decide +kernel
theorem dX0_putEcho_15 : decode cX0_putEcho 15 = .ok (.istore 6, 2) := by decide +kernel
theorem dX0_putEcho_17 : decode cX0_putEcho 17 = .ok (.aload_n 0, 1) := by decide +kernel
theorem dX0_putEcho_18 : decode cX0_putEcho 18 = .ok (.getfield 9, 3) := by decide +kernel
theorem dX0_putEcho_21 : decode cX0_putEcho 21 = .ok (.iload 5, 2) := by decide +kernel
theorem dX0_putEcho_23 : decode cX0_putEcho 23 = .ok (.aload_n 0, 1) := by decide +kernel
theorem dX0_putEcho_24 : decode cX0_putEcho 24 = .ok (.getfield 9, 3) := by decide +kernel
theorem dX0_putEcho_27 : decode cX0_putEcho 27 = .ok (.iload 5, 2) := by decide +kernel
theorem dX0_putEcho_29 : decode cX0_putEcho 29 = .ok (.iaload, 1) := by decide +kernel
theorem dX0_putEcho_30 : decode cX0_putEcho 30 = .ok (.bipush 15, 2) := by decide +kernel
theorem dX0_putEcho_32 : decode cX0_putEcho 32 = .ok (.iload 6, 2) := by decide +kernel
theorem dX0_putEcho_34 : decode cX0_putEcho 34 = .ok (.ishl, 1) := by decide +kernel
theorem dX0_putEcho_35 : decode cX0_putEcho 35 = .ok (.iconst (-1), 1) := by decide +kernel
theorem dX0_putEcho_36 : decode cX0_putEcho 36 = .ok (.ixor, 1) := by decide +kernel
theorem dX0_putEcho_37 : decode cX0_putEcho 37 = .ok (.iand, 1) := by decide +kernel
theorem dX0_putEcho_38 : decode cX0_putEcho 38 = .ok (.iload 4, 2) := by decide +kernel
theorem dX0_putEcho_40 : decode cX0_putEcho 40 = .ok (.iload 6, 2) := by decide +kernel
theorem dX0_putEcho_42 : decode cX0_putEcho 42 = .ok (.ishl, 1) := by decide +kernel
theorem dX0_putEcho_43 : decode cX0_putEcho 43 = .ok (.ior, 1) := by decide +kernel
theorem dX0_putEcho_44 : decode cX0_putEcho 44 = .ok (.iastore, 1) := by decide +kernel
theorem dX0_putEcho_45 : decode cX0_putEcho 45 = .ok (.aload_n 0, 1) := by decide +kernel
theorem dX0_putEcho_46 : decode cX0_putEcho 46 = .ok (.iload_n 1, 1) := by decide +kernel
theorem dX0_putEcho_47 : decode cX0_putEcho 47 = .ok (.iload_n 2, 1) := by decide +kernel
theorem dX0_putEcho_48 : decode cX0_putEcho 48 = .ok (.invokevirtual 36, 3) := by decide +kernel
theorem dX0_putEcho_51 : decode cX0_putEcho 51 = .ok (.return_, 1) := by decide +kernel
theorem dX0_wipe_0 : decode cX0_wipe 0 = .ok (.iload_n 1, 1) := by decide +kernel
theorem dX0_wipe_1 : decode cX0_wipe 1 = .ok (.iconst 0, 1) := by decide +kernel
theorem dX0_wipe_2 : decode cX0_wipe 2 = .ok (.iconst 0, 1) := by decide +kernel
theorem dX0_wipe_3 : decode cX0_wipe 3 = .ok (.invokestatic 28, 3) := by decide +kernel
theorem dX0_wipe_6 : decode cX0_wipe 6 = .ok (.istore_n 2, 1) := by decide +kernel
theorem dX0_wipe_7 : decode cX0_wipe 7 = .ok (.iconst 0, 1) := by decide +kernel
theorem dX0_wipe_8 : decode cX0_wipe 8 = .ok (.istore_n 3, 1) := by decide +kernel
theorem dX0_wipe_9 : decode cX0_wipe 9 = .ok (.iload_n 3, 1) := by decide +kernel
theorem dX0_wipe_10 : decode cX0_wipe 10 = .ok (.bipush 96, 2) := by decide +kernel
theorem dX0_wipe_12 : decode cX0_wipe 12 = .ok (.if_icmp .ge 18, 3) := by decide +kernel
theorem dX0_wipe_15 : decode cX0_wipe 15 = .ok (.aload_n 0, 1) := by decide +kernel
theorem dX0_wipe_16 : decode cX0_wipe 16 = .ok (.getfield 9, 3) := by decide +kernel
theorem dX0_wipe_19 : decode cX0_wipe 19 = .ok (.iload_n 2, 1) := by decide +kernel
theorem dX0_wipe_20 : decode cX0_wipe 20 = .ok (.iload_n 3, 1) := by decide +kernel
theorem dX0_wipe_21 : decode cX0_wipe 21 = .ok (.iadd, 1) := by decide +kernel
theorem dX0_wipe_22 : decode cX0_wipe 22 = .ok (.iconst 0, 1) := by decide +kernel
theorem dX0_wipe_23 : decode cX0_wipe 23 = .ok (.iastore, 1) := by decide +kernel
theorem dX0_wipe_24 : decode cX0_wipe 24 = .ok (.iinc 3 1, 3) := by decide +kernel
theorem dX0_wipe_27 : decode cX0_wipe 27 = .ok (.goto (-18), 3) := by decide +kernel
theorem dX0_wipe_30 : decode cX0_wipe 30 = .ok (.aload_n 0, 1) := by decide +kernel
theorem dX0_wipe_31 : decode cX0_wipe 31 = .ok (.getfield 15, 3) := by decide +kernel
theorem dX0_wipe_34 : decode cX0_wipe 34 = .ok (.iload_n 1, 1) := by decide +kernel
theorem dX0_wipe_35 : decode cX0_wipe 35 = .ok (.iconst 0, 1) := by decide +kernel
theorem dX0_wipe_36 : decode cX0_wipe 36 = .ok (.iastore, 1) := by decide +kernel
theorem dX0_wipe_37 : decode cX0_wipe 37 = .ok (.return_, 1) := by decide +kernel
theorem dX0_setNoise_0 : decode cX0_setNoise 0 = .ok (.aload_n 0, 1) := by decide +kernel
theorem dX0_setNoise_1 : decode cX0_setNoise 1 = .ok (.iload_n 1, 1) := by decide +kernel
theorem dX0_setNoise_2 : decode cX0_setNoise 2 = .ok (.putfield 18, 3) := by decide +kernel
theorem dX0_setNoise_5 : decode cX0_setNoise 5 = .ok (.aload_n 0, 1) := by decide +kernel
theorem dX0_setNoise_6 : decode cX0_setNoise 6 = .ok (.iload_n 2, 1) := by decide +kernel
theorem dX0_setNoise_7 : decode cX0_setNoise 7 = .ok (.putfield 22, 3) := by decide +kernel
theorem dX0_setNoise_10 : decode cX0_setNoise 10 = .ok (.iconst 0, 1) := by decide +kernel
theorem dX0_setNoise_11 : decode cX0_setNoise 11 = .ok (.istore_n 3, 1) := by decide +kernel
theorem dX0_setNoise_12 : decode cX0_setNoise 12 = .ok (.iload_n 3, 1) := by decide +kernel
theorem dX0_setNoise_13 : decode cX0_setNoise 13 = .ok (.iconst 4, 1) := by decide +kernel
theorem dX0_setNoise_14 : decode cX0_setNoise 14 = .ok (.if_icmp .ge 32, 3) := by decide +kernel
theorem dX0_setNoise_17 : decode cX0_setNoise 17 = .ok (.iconst 0, 1) := by decide +kernel
theorem dX0_setNoise_18 : decode cX0_setNoise 18 = .ok (.istore 4, 2) := by decide +kernel
theorem dX0_setNoise_20 : decode cX0_setNoise 20 = .ok (.iload 4, 2) := by decide +kernel
theorem dX0_setNoise_22 : decode cX0_setNoise 22 = .ok (.bipush 24, 2) := by decide +kernel
theorem dX0_setNoise_24 : decode cX0_setNoise 24 = .ok (.if_icmp .ge 16, 3) := by decide +kernel
theorem dX0_setNoise_27 : decode cX0_setNoise 27 = .ok (.aload_n 0, 1) := by decide +kernel
theorem dX0_setNoise_28 : decode cX0_setNoise 28 = .ok (.iload_n 3, 1) := by decide +kernel
theorem dX0_setNoise_29 : decode cX0_setNoise 29 = .ok (.iload 4, 2) := by decide +kernel
theorem dX0_setNoise_31 : decode cX0_setNoise 31 = .ok (.invokevirtual 36, 3) := by decide +kernel
theorem dX0_setNoise_34 : decode cX0_setNoise 34 = .ok (.iinc 4 1, 3) := by decide +kernel
theorem dX0_setNoise_37 : decode cX0_setNoise 37 = .ok (.goto (-17), 3) := by decide +kernel
theorem dX0_setNoise_40 : decode cX0_setNoise 40 = .ok (.iinc 3 1, 3) := by decide +kernel
theorem dX0_setNoise_43 : decode cX0_setNoise 43 = .ok (.goto (-31), 3) := by decide +kernel
theorem dX0_setNoise_46 : decode cX0_setNoise 46 = .ok (.return_, 1) := by decide +kernel
theorem dX0_judge_0 : decode cX0_judge 0 = .ok (.iconst 0, 1) := by decide +kernel
theorem dX0_judge_1 : decode cX0_judge 1 = .ok (.istore_n 3, 1) := by decide +kernel
theorem dX0_judge_2 : decode cX0_judge 2 = .ok (.iconst 0, 1) := by decide +kernel
theorem dX0_judge_3 : decode cX0_judge 3 = .ok (.istore 4, 2) := by decide +kernel
theorem dX0_judge_5 : decode cX0_judge 5 = .ok (.iload 4, 2) := by decide +kernel
theorem dX0_judge_7 : decode cX0_judge 7 = .ok (.bipush 32, 2) := by decide +kernel
theorem dX0_judge_9 : decode cX0_judge 9 = .ok (.if_icmp .ge 27, 3) := by decide +kernel
theorem dX0_judge_12 : decode cX0_judge 12 = .ok (.aload_n 0, 1) := by decide +kernel
theorem dX0_judge_13 : decode cX0_judge 13 = .ok (.iload_n 1, 1) := by decide +kernel
theorem dX0_judge_14 : decode cX0_judge 14 = .ok (.iload_n 2, 1) := by decide +kernel
theorem dX0_judge_15 : decode cX0_judge 15 = .ok (.iload 4, 2) := by decide +kernel
theorem dX0_judge_17 : decode cX0_judge 17 = .ok (.invokevirtual 40, 3) := by decide +kernel
theorem dX0_judge_20 : decode cX0_judge 20 = .ok (.aload_n 0, 1) := by decide +kernel
theorem dX0_judge_21 : decode cX0_judge 21 = .ok (.getfield 18, 3) := by decide +kernel
theorem dX0_judge_24 : decode cX0_judge 24 = .ok (.if_icmp .lt 6, 3) := by decide +kernel
theorem dX0_judge_27 : decode cX0_judge 27 = .ok (.iinc 3 1, 3) := by decide +kernel
theorem dX0_judge_30 : decode cX0_judge 30 = .ok (.iinc 4 1, 3) := by decide +kernel
theorem dX0_judge_33 : decode cX0_judge 33 = .ok (.goto (-28), 3) := by decide +kernel
theorem dX0_judge_36 : decode cX0_judge 36 = .ok (.iconst 1, 1) := by decide +kernel
theorem dX0_judge_37 : decode cX0_judge 37 = .ok (.iload_n 2, 1) := by decide +kernel
theorem dX0_judge_38 : decode cX0_judge 38 = .ok (.ishl, 1) := by decide +kernel
theorem dX0_judge_39 : decode cX0_judge 39 = .ok (.istore 4, 2) := by decide +kernel
theorem dX0_judge_41 : decode cX0_judge 41 = .ok (.aload_n 0, 1) := by decide +kernel
theorem dX0_judge_42 : decode cX0_judge 42 = .ok (.getfield 15, 3) := by decide +kernel
theorem dX0_judge_45 : decode cX0_judge 45 = .ok (.iload_n 1, 1) := by decide +kernel
theorem dX0_judge_46 : decode cX0_judge 46 = .ok (.iload_n 3, 1) := by decide +kernel
theorem dX0_judge_47 : decode cX0_judge 47 = .ok (.aload_n 0, 1) := by decide +kernel
theorem dX0_judge_48 : decode cX0_judge 48 = .ok (.getfield 22, 3) := by decide +kernel
theorem dX0_judge_51 : decode cX0_judge 51 = .ok (.if_icmp .lt 15, 3) := by decide +kernel
theorem dX0_judge_54 : decode cX0_judge 54 = .ok (.aload_n 0, 1) := by decide +kernel
theorem dX0_judge_55 : decode cX0_judge 55 = .ok (.getfield 15, 3) := by decide +kernel
theorem dX0_judge_58 : decode cX0_judge 58 = .ok (.iload_n 1, 1) := by decide +kernel
theorem dX0_judge_59 : decode cX0_judge 59 = .ok (.iaload, 1) := by decide +kernel
theorem dX0_judge_60 : decode cX0_judge 60 = .ok (.iload 4, 2) := by decide +kernel
theorem dX0_judge_62 : decode cX0_judge 62 = .ok (.ior, 1) := by decide +kernel
theorem dX0_judge_63 : decode cX0_judge 63 = .ok (.goto 14, 3) := by decide +kernel
theorem dX0_judge_66 : decode cX0_judge 66 = .ok (.aload_n 0, 1) := by decide +kernel
theorem dX0_judge_67 : decode cX0_judge 67 = .ok (.getfield 15, 3) := by decide +kernel
theorem dX0_judge_70 : decode cX0_judge 70 = .ok (.iload_n 1, 1) := by decide +kernel
theorem dX0_judge_71 : decode cX0_judge 71 = .ok (.iaload, 1) := by decide +kernel
theorem dX0_judge_72 : decode cX0_judge 72 = .ok (.iload 4, 2) := by decide +kernel
theorem dX0_judge_74 : decode cX0_judge 74 = .ok (.iconst (-1), 1) := by decide +kernel
theorem dX0_judge_75 : decode cX0_judge 75 = .ok (.ixor, 1) := by decide +kernel
theorem dX0_judge_76 : decode cX0_judge 76 = .ok (.iand, 1) := by decide +kernel
theorem dX0_judge_77 : decode cX0_judge 77 = .ok (.iastore, 1) := by decide +kernel
theorem dX0_judge_78 : decode cX0_judge 78 = .ok (.return_, 1) := by decide +kernel
theorem dX0_isBarred_0 : decode cX0_isBarred 0 = .ok (.aload_n 0, 1) := by decide +kernel
theorem dX0_isBarred_1 : decode cX0_isBarred 1 = .ok (.getfield 15, 3) := by decide +kernel
theorem dX0_isBarred_4 : decode cX0_isBarred 4 = .ok (.iload_n 1, 1) := by decide +kernel
theorem dX0_isBarred_5 : decode cX0_isBarred 5 = .ok (.iaload, 1) := by decide +kernel
theorem dX0_isBarred_6 : decode cX0_isBarred 6 = .ok (.iload_n 2, 1) := by decide +kernel
theorem dX0_isBarred_7 : decode cX0_isBarred 7 = .ok (.iushr, 1) := by decide +kernel
theorem dX0_isBarred_8 : decode cX0_isBarred 8 = .ok (.iconst 1, 1) := by decide +kernel
theorem dX0_isBarred_9 : decode cX0_isBarred 9 = .ok (.iand, 1) := by decide +kernel
theorem dX0_isBarred_10 : decode cX0_isBarred 10 = .ok (.iconst 1, 1) := by decide +kernel
theorem dX0_isBarred_11 : decode cX0_isBarred 11 = .ok (.if_icmp .ne 7, 3) := by decide +kernel
theorem dX0_isBarred_14 : decode cX0_isBarred 14 = .ok (.iconst 1, 1) := by decide +kernel
theorem dX0_isBarred_15 : decode cX0_isBarred 15 = .ok (.goto 4, 3) := by decide +kernel
theorem dX0_isBarred_18 : decode cX0_isBarred 18 = .ok (.iconst 0, 1) := by decide +kernel
theorem dX0_isBarred_19 : decode cX0_isBarred 19 = .ok (.ireturn, 1) := by decide +kernel
theorem dX0_barredTones_0 : decode cX0_barredTones 0 = .ok (.aload_n 0, 1) := by decide +kernel
theorem dX0_barredTones_1 : decode cX0_barredTones 1 = .ok (.getfield 15, 3) := by decide +kernel
theorem dX0_barredTones_4 : decode cX0_barredTones 4 = .ok (.iload_n 1, 1) := by decide +kernel
theorem dX0_barredTones_5 : decode cX0_barredTones 5 = .ok (.iaload, 1) := by decide +kernel
theorem dX0_barredTones_6 : decode cX0_barredTones 6 = .ok (.invokestatic 43, 3) := by decide +kernel
theorem dX0_barredTones_9 : decode cX0_barredTones 9 = .ok (.ireturn, 1) := by decide +kernel
theorem dX0_worthAt_0 : decode cX0_worthAt 0 = .ok (.aload_n 0, 1) := by decide +kernel
theorem dX0_worthAt_1 : decode cX0_worthAt 1 = .ok (.iload_n 1, 1) := by decide +kernel
theorem dX0_worthAt_2 : decode cX0_worthAt 2 = .ok (.iload_n 2, 1) := by decide +kernel
theorem dX0_worthAt_3 : decode cX0_worthAt 3 = .ok (.iload_n 3, 1) := by decide +kernel
theorem dX0_worthAt_4 : decode cX0_worthAt 4 = .ok (.invokevirtual 48, 3) := by decide +kernel
theorem dX0_worthAt_7 : decode cX0_worthAt 7 = .ok (.aload_n 0, 1) := by decide +kernel
theorem dX0_worthAt_8 : decode cX0_worthAt 8 = .ok (.iload_n 1, 1) := by decide +kernel
theorem dX0_worthAt_9 : decode cX0_worthAt 9 = .ok (.iload_n 2, 1) := by decide +kernel
theorem dX0_worthAt_10 : decode cX0_worthAt 10 = .ok (.aload_n 0, 1) := by decide +kernel
theorem dX0_worthAt_11 : decode cX0_worthAt 11 = .ok (.getfield 25, 3) := by decide +kernel
theorem dX0_worthAt_14 : decode cX0_worthAt 14 = .ok (.iadd, 1) := by decide +kernel
theorem dX0_worthAt_15 : decode cX0_worthAt 15 = .ok (.iload_n 3, 1) := by decide +kernel
theorem dX0_worthAt_16 : decode cX0_worthAt 16 = .ok (.invokevirtual 48, 3) := by decide +kernel
theorem dX0_worthAt_19 : decode cX0_worthAt 19 = .ok (.iadd, 1) := by decide +kernel
theorem dX0_worthAt_20 : decode cX0_worthAt 20 = .ok (.ireturn, 1) := by decide +kernel
theorem dX0_heardAt_0 : decode cX0_heardAt 0 = .ok (.iload_n 2, 1) := by decide +kernel
theorem dX0_heardAt_1 : decode cX0_heardAt 1 = .ok (.bipush 24, 2) := by decide +kernel
theorem dX0_heardAt_3 : decode cX0_heardAt 3 = .ok (.if_icmp .ge 12, 3) := by decide +kernel
theorem dX0_heardAt_6 : decode cX0_heardAt 6 = .ok (.aload_n 0, 1) := by decide +kernel
theorem dX0_heardAt_7 : decode cX0_heardAt 7 = .ok (.iload_n 1, 1) := by decide +kernel
theorem dX0_heardAt_8 : decode cX0_heardAt 8 = .ok (.iload_n 2, 1) := by decide +kernel
theorem dX0_heardAt_9 : decode cX0_heardAt 9 = .ok (.invokevirtual 51, 3) := by decide +kernel
theorem dX0_heardAt_12 : decode cX0_heardAt 12 = .ok (.ifCond .eq 7, 3) := by decide +kernel
theorem dX0_heardAt_15 : decode cX0_heardAt 15 = .ok (.iconst 0, 1) := by decide +kernel
theorem dX0_heardAt_16 : decode cX0_heardAt 16 = .ok (.goto 10, 3) := by decide +kernel
theorem dX0_heardAt_19 : decode cX0_heardAt 19 = .ok (.aload_n 0, 1) := by decide +kernel
theorem dX0_heardAt_20 : decode cX0_heardAt 20 = .ok (.iload_n 1, 1) := by decide +kernel
theorem dX0_heardAt_21 : decode cX0_heardAt 21 = .ok (.iload_n 2, 1) := by decide +kernel
theorem dX0_heardAt_22 : decode cX0_heardAt 22 = .ok (.iload_n 3, 1) := by decide +kernel
theorem dX0_heardAt_23 : decode cX0_heardAt 23 = .ok (.invokevirtual 40, 3) := by decide +kernel
theorem dX0_heardAt_26 : decode cX0_heardAt 26 = .ok (.ireturn, 1) := by decide +kernel
theorem dX0_copyFrom_0 : decode cX0_copyFrom 0 = .ok (.aload_n 1, 1) := by decide +kernel
theorem dX0_copyFrom_1 : decode cX0_copyFrom 1 = .ok (.getfield 9, 3) := by decide +kernel
theorem dX0_copyFrom_4 : decode cX0_copyFrom 4 = .ok (.iconst 0, 1) := by decide +kernel
theorem dX0_copyFrom_5 : decode cX0_copyFrom 5 = .ok (.aload_n 0, 1) := by decide +kernel
theorem dX0_copyFrom_6 : decode cX0_copyFrom 6 = .ok (.getfield 9, 3) := by decide +kernel
theorem dX0_copyFrom_9 : decode cX0_copyFrom 9 = .ok (.iconst 0, 1) := by decide +kernel
theorem dX0_copyFrom_10 : decode cX0_copyFrom 10 = .ok (.aload_n 0, 1) := by decide +kernel
theorem dX0_copyFrom_11 : decode cX0_copyFrom 11 = .ok (.getfield 9, 3) := by decide +kernel
theorem dX0_copyFrom_14 : decode cX0_copyFrom 14 = .ok (.arraylength, 1) := by decide +kernel
theorem dX0_copyFrom_15 : decode cX0_copyFrom 15 = .ok (.invokestatic 55, 3) := by decide +kernel
theorem dX0_copyFrom_18 : decode cX0_copyFrom 18 = .ok (.aload_n 1, 1) := by decide +kernel
theorem dX0_copyFrom_19 : decode cX0_copyFrom 19 = .ok (.getfield 15, 3) := by decide +kernel
theorem dX0_copyFrom_22 : decode cX0_copyFrom 22 = .ok (.iconst 0, 1) := by decide +kernel
theorem dX0_copyFrom_23 : decode cX0_copyFrom 23 = .ok (.aload_n 0, 1) := by decide +kernel
theorem dX0_copyFrom_24 : decode cX0_copyFrom 24 = .ok (.getfield 15, 3) := by decide +kernel
theorem dX0_copyFrom_27 : decode cX0_copyFrom 27 = .ok (.iconst 0, 1) := by decide +kernel
theorem dX0_copyFrom_28 : decode cX0_copyFrom 28 = .ok (.aload_n 0, 1) := by decide +kernel
theorem dX0_copyFrom_29 : decode cX0_copyFrom 29 = .ok (.getfield 15, 3) := by decide +kernel
theorem dX0_copyFrom_32 : decode cX0_copyFrom 32 = .ok (.arraylength, 1) := by decide +kernel
theorem dX0_copyFrom_33 : decode cX0_copyFrom 33 = .ok (.invokestatic 55, 3) := by decide +kernel
theorem dX0_copyFrom_36 : decode cX0_copyFrom 36 = .ok (.aload_n 0, 1) := by decide +kernel
theorem dX0_copyFrom_37 : decode cX0_copyFrom 37 = .ok (.aload_n 1, 1) := by decide +kernel
theorem dX0_copyFrom_38 : decode cX0_copyFrom 38 = .ok (.getfield 18, 3) := by decide +kernel
theorem dX0_copyFrom_41 : decode cX0_copyFrom 41 = .ok (.putfield 18, 3) := by decide +kernel
theorem dX0_copyFrom_44 : decode cX0_copyFrom 44 = .ok (.aload_n 0, 1) := by decide +kernel
theorem dX0_copyFrom_45 : decode cX0_copyFrom 45 = .ok (.aload_n 1, 1) := by decide +kernel
theorem dX0_copyFrom_46 : decode cX0_copyFrom 46 = .ok (.getfield 22, 3) := by decide +kernel
theorem dX0_copyFrom_49 : decode cX0_copyFrom 49 = .ok (.putfield 22, 3) := by decide +kernel
theorem dX0_copyFrom_52 : decode cX0_copyFrom 52 = .ok (.aload_n 0, 1) := by decide +kernel
theorem dX0_copyFrom_53 : decode cX0_copyFrom 53 = .ok (.aload_n 1, 1) := by decide +kernel
theorem dX0_copyFrom_54 : decode cX0_copyFrom 54 = .ok (.getfield 25, 3) := by decide +kernel
theorem dX0_copyFrom_57 : decode cX0_copyFrom 57 = .ok (.putfield 25, 3) := by decide +kernel
theorem dX0_copyFrom_60 : decode cX0_copyFrom 60 = .ok (.return_, 1) := by decide +kernel
theorem dX1_highestTone_0 : decode cX1_highestTone 0 = .ok (.ldc2_w 9, 3) := by decide +kernel
theorem dX1_highestTone_3 : decode cX1_highestTone 3 = .ok (.iload_n 3, 1) := by decide +kernel
theorem dX1_highestTone_4 : decode cX1_highestTone 4 = .ok (.i2l, 1) := by decide +kernel
theorem dX1_highestTone_5 : decode cX1_highestTone 5 = .ok (.lmul, 1) := by decide +kernel
theorem dX1_highestTone_6 : decode cX1_highestTone 6 = .ok (.iload_n 3, 1) := by decide +kernel
theorem dX1_highestTone_7 : decode cX1_highestTone 7 = .ok (.i2l, 1) := by decide +kernel
theorem dX1_highestTone_8 : decode cX1_highestTone 8 = .ok (.lmul, 1) := by decide +kernel
theorem dX1_highestTone_9 : decode cX1_highestTone 9 = .ok (.iload_n 1, 1) := by decide +kernel
theorem dX1_highestTone_10 : decode cX1_highestTone 10 = .ok (.i2l, 1) := by decide +kernel
theorem dX1_highestTone_11 : decode cX1_highestTone 11 = .ok (.lmul, 1) := by decide +kernel
theorem dX1_highestTone_12 : decode cX1_highestTone 12 = .ok (.iload_n 1, 1) := by decide +kernel
theorem dX1_highestTone_13 : decode cX1_highestTone 13 = .ok (.i2l, 1) := by decide +kernel
theorem dX1_highestTone_14 : decode cX1_highestTone 14 = .ok (.lmul, 1) := by decide +kernel
theorem dX1_highestTone_15 : decode cX1_highestTone 15 = .ok (.lstore 4, 2) := by decide +kernel
theorem dX1_highestTone_17 : decode cX1_highestTone 17 = .ok (.iload_n 0, 1) := by decide +kernel
theorem dX1_highestTone_18 : decode cX1_highestTone 18 = .ok (.i2l, 1) := by decide +kernel
theorem dX1_highestTone_19 : decode cX1_highestTone 19 = .ok (.iload_n 0, 1) := by decide +kernel
theorem dX1_highestTone_20 : decode cX1_highestTone 20 = .ok (.i2l, 1) := by decide +kernel
theorem dX1_highestTone_21 : decode cX1_highestTone 21 = .ok (.lmul, 1) := by decide +kernel
theorem dX1_highestTone_22 : decode cX1_highestTone 22 = .ok (.lload 4, 2) := by decide +kernel
theorem dX1_highestTone_24 : decode cX1_highestTone 24 = .ok (.ladd, 1) := by decide +kernel
theorem dX1_highestTone_25 : decode cX1_highestTone 25 = .ok (.lstore 6, 2) := by decide +kernel
theorem dX1_highestTone_27 : decode cX1_highestTone 27 = .ok (.iload_n 2, 1) := by decide +kernel
theorem dX1_highestTone_28 : decode cX1_highestTone 28 = .ok (.i2l, 1) := by decide +kernel
theorem dX1_highestTone_29 : decode cX1_highestTone 29 = .ok (.iload_n 2, 1) := by decide +kernel
theorem dX1_highestTone_30 : decode cX1_highestTone 30 = .ok (.i2l, 1) := by decide +kernel
theorem dX1_highestTone_31 : decode cX1_highestTone 31 = .ok (.lmul, 1) := by decide +kernel
theorem dX1_highestTone_32 : decode cX1_highestTone 32 = .ok (.lload 6, 2) := by decide +kernel
theorem dX1_highestTone_34 : decode cX1_highestTone 34 = .ok (.lmul, 1) := by decide +kernel
theorem dX1_highestTone_35 : decode cX1_highestTone 35 = .ok (.lload 4, 2) := by decide +kernel
theorem dX1_highestTone_37 : decode cX1_highestTone 37 = .ok (.ldiv, 1) := by decide +kernel
theorem dX1_highestTone_38 : decode cX1_highestTone 38 = .ok (.invokestatic 11, 3) := by decide +kernel
theorem dX1_highestTone_41 : decode cX1_highestTone 41 = .ok (.ireturn, 1) := by decide +kernel
theorem dX1_rootOf_0 : decode cX1_rootOf 0 = .ok (.lconst 0, 1) := by decide +kernel
theorem dX1_rootOf_1 : decode cX1_rootOf 1 = .ok (.lstore_n 2, 1) := by decide +kernel
theorem dX1_rootOf_2 : decode cX1_rootOf 2 = .ok (.bipush 23, 2) := by decide +kernel
theorem dX1_rootOf_4 : decode cX1_rootOf 4 = .ok (.istore 4, 2) := by decide +kernel
theorem dX1_rootOf_6 : decode cX1_rootOf 6 = .ok (.iload 4, 2) := by decide +kernel
theorem dX1_rootOf_8 : decode cX1_rootOf 8 = .ok (.ifCond .lt 30, 3) := by decide +kernel
theorem dX1_rootOf_11 : decode cX1_rootOf 11 = .ok (.lload_n 2, 1) := by decide +kernel
theorem dX1_rootOf_12 : decode cX1_rootOf 12 = .ok (.lconst 1, 1) := by decide +kernel
theorem dX1_rootOf_13 : decode cX1_rootOf 13 = .ok (.iload 4, 2) := by decide +kernel
theorem dX1_rootOf_15 : decode cX1_rootOf 15 = .ok (.lshl, 1) := by decide +kernel
theorem dX1_rootOf_16 : decode cX1_rootOf 16 = .ok (.ladd, 1) := by decide +kernel
theorem dX1_rootOf_17 : decode cX1_rootOf 17 = .ok (.lstore 5, 2) := by decide +kernel
theorem dX1_rootOf_19 : decode cX1_rootOf 19 = .ok (.lload 5, 2) := by decide +kernel
theorem dX1_rootOf_21 : decode cX1_rootOf 21 = .ok (.lload 5, 2) := by decide +kernel
theorem dX1_rootOf_23 : decode cX1_rootOf 23 = .ok (.lmul, 1) := by decide +kernel
theorem dX1_rootOf_24 : decode cX1_rootOf 24 = .ok (.lload_n 0, 1) := by decide +kernel
theorem dX1_rootOf_25 : decode cX1_rootOf 25 = .ok (.lcmp, 1) := by decide +kernel
theorem dX1_rootOf_26 : decode cX1_rootOf 26 = .ok (.ifCond .gt 6, 3) := by decide +kernel
theorem dX1_rootOf_29 : decode cX1_rootOf 29 = .ok (.lload 5, 2) := by decide +kernel
theorem dX1_rootOf_31 : decode cX1_rootOf 31 = .ok (.lstore_n 2, 1) := by decide +kernel
theorem dX1_rootOf_32 : decode cX1_rootOf 32 = .ok (.iinc 4 (-1), 3) := by decide +kernel
theorem dX1_rootOf_35 : decode cX1_rootOf 35 = .ok (.goto (-29), 3) := by decide +kernel
theorem dX1_rootOf_38 : decode cX1_rootOf 38 = .ok (.lload_n 2, 1) := by decide +kernel
theorem dX1_rootOf_39 : decode cX1_rootOf 39 = .ok (.l2i, 1) := by decide +kernel
theorem dX1_rootOf_40 : decode cX1_rootOf 40 = .ok (.ireturn, 1) := by decide +kernel
theorem dX1_leastHops_0 : decode cX1_leastHops 0 = .ok (.iconst 1, 1) := by decide +kernel
theorem dX1_leastHops_1 : decode cX1_leastHops 1 = .ok (.istore_n 2, 1) := by decide +kernel
theorem dX1_leastHops_2 : decode cX1_leastHops 2 = .ok (.iload_n 2, 1) := by decide +kernel
theorem dX1_leastHops_3 : decode cX1_leastHops 3 = .ok (.iconst 5, 1) := by decide +kernel
theorem dX1_leastHops_4 : decode cX1_leastHops 4 = .ok (.if_icmp .gt 18, 3) := by decide +kernel
theorem dX1_leastHops_7 : decode cX1_leastHops 7 = .ok (.iload_n 0, 1) := by decide +kernel
theorem dX1_leastHops_8 : decode cX1_leastHops 8 = .ok (.iload_n 2, 1) := by decide +kernel
theorem dX1_leastHops_9 : decode cX1_leastHops 9 = .ok (.iload_n 1, 1) := by decide +kernel
theorem dX1_leastHops_10 : decode cX1_leastHops 10 = .ok (.imul, 1) := by decide +kernel
theorem dX1_leastHops_11 : decode cX1_leastHops 11 = .ok (.if_icmp .gt 5, 3) := by decide +kernel
theorem dX1_leastHops_14 : decode cX1_leastHops 14 = .ok (.iload_n 2, 1) := by decide +kernel
theorem dX1_leastHops_15 : decode cX1_leastHops 15 = .ok (.ireturn, 1) := by decide +kernel
theorem dX1_leastHops_16 : decode cX1_leastHops 16 = .ok (.iinc 2 1, 3) := by decide +kernel
theorem dX1_leastHops_19 : decode cX1_leastHops 19 = .ok (.goto (-17), 3) := by decide +kernel
theorem dX1_leastHops_22 : decode cX1_leastHops 22 = .ok (.iconst (-1), 1) := by decide +kernel
theorem dX1_leastHops_23 : decode cX1_leastHops 23 = .ok (.ireturn, 1) := by decide +kernel
theorem dX2_init_0 : decode cX2_init 0 = .ok (.aload_n 0, 1) := by decide +kernel
theorem dX2_init_1 : decode cX2_init 1 = .ok (.invokespecial 3, 3) := by decide +kernel
theorem dX2_init_4 : decode cX2_init 4 = .ok (.aload_n 0, 1) := by decide +kernel
theorem dX2_init_5 : decode cX2_init 5 = .ok (.bipush 31, 2) := by decide +kernel
theorem dX2_init_7 : decode cX2_init 7 = .ok (.newarray .int, 2) := by decide +kernel
theorem dX2_init_9 : decode cX2_init 9 = .ok (.putfield 9, 3) := by decide +kernel
theorem dX2_init_12 : decode cX2_init 12 = .ok (.return_, 1) := by decide +kernel
theorem dX2_find_0 : decode cX2_find 0 = .ok (.iconst 0, 1) := by decide +kernel
theorem dX2_find_1 : decode cX2_find 1 = .ok (.istore 5, 2) := by decide +kernel
theorem dX2_find_3 : decode cX2_find 3 = .ok (.iconst 0, 1) := by decide +kernel
theorem dX2_find_4 : decode cX2_find 4 = .ok (.istore 6, 2) := by decide +kernel
theorem dX2_find_6 : decode cX2_find 6 = .ok (.iload 6, 2) := by decide +kernel
theorem dX2_find_8 : decode cX2_find 8 = .ok (.bipush 31, 2) := by decide +kernel
theorem dX2_find_10 : decode cX2_find 10 = .ok (.if_icmp .ge 63, 3) := by decide +kernel
theorem dX2_find_13 : decode cX2_find 13 = .ok (.aload_n 1, 1) := by decide +kernel
theorem dX2_find_14 : decode cX2_find 14 = .ok (.iload_n 2, 1) := by decide +kernel
theorem dX2_find_15 : decode cX2_find 15 = .ok (.iload 6, 2) := by decide +kernel
theorem dX2_find_17 : decode cX2_find 17 = .ok (.invokevirtual 15, 3) := by decide +kernel
theorem dX2_find_20 : decode cX2_find 20 = .ok (.ifCond .ne 47, 3) := by decide +kernel
theorem dX2_find_23 : decode cX2_find 23 = .ok (.aload_n 1, 1) := by decide +kernel
theorem dX2_find_24 : decode cX2_find 24 = .ok (.iload_n 2, 1) := by decide +kernel
theorem dX2_find_25 : decode cX2_find 25 = .ok (.iload 6, 2) := by decide +kernel
theorem dX2_find_27 : decode cX2_find 27 = .ok (.invokevirtual 21, 3) := by decide +kernel
theorem dX2_find_30 : decode cX2_find 30 = .ok (.iload_n 3, 1) := by decide +kernel
theorem dX2_find_31 : decode cX2_find 31 = .ok (.if_icmp .ne 7, 3) := by decide +kernel
theorem dX2_find_34 : decode cX2_find 34 = .ok (.iconst 1, 1) := by decide +kernel
theorem dX2_find_35 : decode cX2_find 35 = .ok (.goto 4, 3) := by decide +kernel
theorem dX2_find_38 : decode cX2_find 38 = .ok (.iconst 0, 1) := by decide +kernel
theorem dX2_find_39 : decode cX2_find 39 = .ok (.istore 7, 2) := by decide +kernel
theorem dX2_find_41 : decode cX2_find 41 = .ok (.aload_n 0, 1) := by decide +kernel
theorem dX2_find_42 : decode cX2_find 42 = .ok (.iload 5, 2) := by decide +kernel
theorem dX2_find_44 : decode cX2_find 44 = .ok (.iload 7, 2) := by decide +kernel
theorem dX2_find_46 : decode cX2_find 46 = .ok (.ifCond .eq 8, 3) := by decide +kernel
theorem dX2_find_49 : decode cX2_find 49 = .ok (.iload 4, 2) := by decide +kernel
theorem dX2_find_51 : decode cX2_find 51 = .ok (.goto 10, 3) := by decide +kernel
theorem dX2_find_54 : decode cX2_find 54 = .ok (.aload_n 1, 1) := by decide +kernel
theorem dX2_find_55 : decode cX2_find 55 = .ok (.iload_n 2, 1) := by decide +kernel
theorem dX2_find_56 : decode cX2_find 56 = .ok (.iload 6, 2) := by decide +kernel
theorem dX2_find_58 : decode cX2_find 58 = .ok (.invokevirtual 25, 3) := by decide +kernel
theorem dX2_find_61 : decode cX2_find 61 = .ok (.invokevirtual 28, 3) := by decide +kernel
theorem dX2_find_64 : decode cX2_find 64 = .ok (.iinc 5 1, 3) := by decide +kernel
theorem dX2_find_67 : decode cX2_find 67 = .ok (.iinc 6 1, 3) := by decide +kernel
theorem dX2_find_70 : decode cX2_find 70 = .ok (.goto (-64), 3) := by decide +kernel
theorem dX2_find_73 : decode cX2_find 73 = .ok (.iload 5, 2) := by decide +kernel
theorem dX2_find_75 : decode cX2_find 75 = .ok (.ifCond .ne 8, 3) := by decide +kernel
theorem dX2_find_78 : decode cX2_find 78 = .ok (.bipush (-2), 2) := by decide +kernel
theorem dX2_find_80 : decode cX2_find 80 = .ok (.goto 14, 3) := by decide +kernel
theorem dX2_find_83 : decode cX2_find 83 = .ok (.aload_n 0, 1) := by decide +kernel
theorem dX2_find_84 : decode cX2_find 84 = .ok (.getfield 9, 3) := by decide +kernel
theorem dX2_find_87 : decode cX2_find 87 = .ok (.iload 5, 2) := by decide +kernel
theorem dX2_find_89 : decode cX2_find 89 = .ok (.iconst 1, 1) := by decide +kernel
theorem dX2_find_90 : decode cX2_find 90 = .ok (.isub, 1) := by decide +kernel
theorem dX2_find_91 : decode cX2_find 91 = .ok (.iconst 2, 1) := by decide +kernel
theorem dX2_find_92 : decode cX2_find 92 = .ok (.idiv, 1) := by decide +kernel
theorem dX2_find_93 : decode cX2_find 93 = .ok (.iaload, 1) := by decide +kernel
theorem dX2_find_94 : decode cX2_find 94 = .ok (.ireturn, 1) := by decide +kernel
theorem dX2_insert_0 : decode cX2_insert 0 = .ok (.iload_n 1, 1) := by decide +kernel
theorem dX2_insert_1 : decode cX2_insert 1 = .ok (.istore_n 3, 1) := by decide +kernel
theorem dX2_insert_2 : decode cX2_insert 2 = .ok (.iload_n 3, 1) := by decide +kernel
theorem dX2_insert_3 : decode cX2_insert 3 = .ok (.ifCond .le 35, 3) := by decide +kernel
theorem dX2_insert_6 : decode cX2_insert 6 = .ok (.aload_n 0, 1) := by decide +kernel
theorem dX2_insert_7 : decode cX2_insert 7 = .ok (.getfield 9, 3) := by decide +kernel
theorem dX2_insert_10 : decode cX2_insert 10 = .ok (.iload_n 3, 1) := by decide +kernel
theorem dX2_insert_11 : decode cX2_insert 11 = .ok (.iconst 1, 1) := by decide +kernel
theorem dX2_insert_12 : decode cX2_insert 12 = .ok (.isub, 1) := by decide +kernel
theorem dX2_insert_13 : decode cX2_insert 13 = .ok (.iaload, 1) := by decide +kernel
theorem dX2_insert_14 : decode cX2_insert 14 = .ok (.iload_n 2, 1) := by decide +kernel
theorem dX2_insert_15 : decode cX2_insert 15 = .ok (.if_icmp .le 23, 3) := by decide +kernel
theorem dX2_insert_18 : decode cX2_insert 18 = .ok (.aload_n 0, 1) := by decide +kernel
theorem dX2_insert_19 : decode cX2_insert 19 = .ok (.getfield 9, 3) := by decide +kernel
theorem dX2_insert_22 : decode cX2_insert 22 = .ok (.iload_n 3, 1) := by decide +kernel
theorem dX2_insert_23 : decode cX2_insert 23 = .ok (.aload_n 0, 1) := by decide +kernel
theorem dX2_insert_24 : decode cX2_insert 24 = .ok (.getfield 9, 3) := by decide +kernel
theorem dX2_insert_27 : decode cX2_insert 27 = .ok (.iload_n 3, 1) := by decide +kernel
theorem dX2_insert_28 : decode cX2_insert 28 = .ok (.iconst 1, 1) := by decide +kernel
theorem dX2_insert_29 : decode cX2_insert 29 = .ok (.isub, 1) := by decide +kernel
theorem dX2_insert_30 : decode cX2_insert 30 = .ok (.iaload, 1) := by decide +kernel
theorem dX2_insert_31 : decode cX2_insert 31 = .ok (.iastore, 1) := by decide +kernel
theorem dX2_insert_32 : decode cX2_insert 32 = .ok (.iinc 3 (-1), 3) := by decide +kernel
theorem dX2_insert_35 : decode cX2_insert 35 = .ok (.goto (-33), 3) := by decide +kernel
theorem dX2_insert_38 : decode cX2_insert 38 = .ok (.aload_n 0, 1) := by decide +kernel
theorem dX2_insert_39 : decode cX2_insert 39 = .ok (.getfield 9, 3) := by decide +kernel
theorem dX2_insert_42 : decode cX2_insert 42 = .ok (.iload_n 3, 1) := by decide +kernel
theorem dX2_insert_43 : decode cX2_insert 43 = .ok (.iload_n 2, 1) := by decide +kernel
theorem dX2_insert_44 : decode cX2_insert 44 = .ok (.iastore, 1) := by decide +kernel
theorem dX2_insert_45 : decode cX2_insert 45 = .ok (.return_, 1) := by decide +kernel
theorem dX3_init_0 : decode cX3_init 0 = .ok (.aload_n 0, 1) := by decide +kernel
theorem dX3_init_1 : decode cX3_init 1 = .ok (.invokespecial 1, 3) := by decide +kernel
theorem dX3_init_4 : decode cX3_init 4 = .ok (.aload_n 0, 1) := by decide +kernel
theorem dX3_init_5 : decode cX3_init 5 = .ok (.new 7, 3) := by decide +kernel
theorem dX3_init_8 : decode cX3_init 8 = .ok (.dup, 1) := by decide +kernel
theorem dX3_init_9 : decode cX3_init 9 = .ok (.invokespecial 9, 3) := by decide +kernel
theorem dX3_init_12 : decode cX3_init 12 = .ok (.putfield 10, 3) := by decide +kernel
theorem dX3_init_15 : decode cX3_init 15 = .ok (.aload_n 0, 1) := by decide +kernel
theorem dX3_init_16 : decode cX3_init 16 = .ok (.new 16, 3) := by decide +kernel
theorem dX3_init_19 : decode cX3_init 19 = .ok (.dup, 1) := by decide +kernel
theorem dX3_init_20 : decode cX3_init 20 = .ok (.invokespecial 18, 3) := by decide +kernel
theorem dX3_init_23 : decode cX3_init 23 = .ok (.putfield 19, 3) := by decide +kernel
theorem dX3_init_26 : decode cX3_init 26 = .ok (.aload_n 0, 1) := by decide +kernel
theorem dX3_init_27 : decode cX3_init 27 = .ok (.new 23, 3) := by decide +kernel
theorem dX3_init_30 : decode cX3_init 30 = .ok (.dup, 1) := by decide +kernel
theorem dX3_init_31 : decode cX3_init 31 = .ok (.invokespecial 25, 3) := by decide +kernel
theorem dX3_init_34 : decode cX3_init 34 = .ok (.putfield 26, 3) := by decide +kernel
theorem dX3_init_37 : decode cX3_init 37 = .ok (.return_, 1) := by decide +kernel
theorem dX3_copyFrom_0 : decode cX3_copyFrom 0 = .ok (.aload_n 0, 1) := by decide +kernel
theorem dX3_copyFrom_1 : decode cX3_copyFrom 1 = .ok (.getfield 10, 3) := by decide +kernel
theorem dX3_copyFrom_4 : decode cX3_copyFrom 4 = .ok (.aload_n 1, 1) := by decide +kernel
theorem dX3_copyFrom_5 : decode cX3_copyFrom 5 = .ok (.getfield 10, 3) := by decide +kernel
theorem dX3_copyFrom_8 : decode cX3_copyFrom 8 = .ok (.invokevirtual 30, 3) := by decide +kernel
theorem dX3_copyFrom_11 : decode cX3_copyFrom 11 = .ok (.aload_n 0, 1) := by decide +kernel
theorem dX3_copyFrom_12 : decode cX3_copyFrom 12 = .ok (.getfield 19, 3) := by decide +kernel
theorem dX3_copyFrom_15 : decode cX3_copyFrom 15 = .ok (.aload_n 1, 1) := by decide +kernel
theorem dX3_copyFrom_16 : decode cX3_copyFrom 16 = .ok (.getfield 19, 3) := by decide +kernel
theorem dX3_copyFrom_19 : decode cX3_copyFrom 19 = .ok (.invokevirtual 34, 3) := by decide +kernel
theorem dX3_copyFrom_22 : decode cX3_copyFrom 22 = .ok (.aload_n 0, 1) := by decide +kernel
theorem dX3_copyFrom_23 : decode cX3_copyFrom 23 = .ok (.getfield 26, 3) := by decide +kernel
theorem dX3_copyFrom_26 : decode cX3_copyFrom 26 = .ok (.aload_n 1, 1) := by decide +kernel
theorem dX3_copyFrom_27 : decode cX3_copyFrom 27 = .ok (.getfield 26, 3) := by decide +kernel
theorem dX3_copyFrom_30 : decode cX3_copyFrom 30 = .ok (.invokevirtual 37, 3) := by decide +kernel
theorem dX3_copyFrom_33 : decode cX3_copyFrom 33 = .ok (.return_, 1) := by decide +kernel
theorem dX4_init_0 : decode cX4_init 0 = .ok (.aload_n 0, 1) := by decide +kernel
theorem dX4_init_1 : decode cX4_init 1 = .ok (.invokespecial 3, 3) := by decide +kernel
theorem dX4_init_4 : decode cX4_init 4 = .ok (.aload_n 0, 1) := by decide +kernel
theorem dX4_init_5 : decode cX4_init 5 = .ok (.iconst 4, 1) := by decide +kernel
theorem dX4_init_6 : decode cX4_init 6 = .ok (.newarray .int, 2) := by decide +kernel
theorem dX4_init_8 : decode cX4_init 8 = .ok (.putfield 9, 3) := by decide +kernel
theorem dX4_init_11 : decode cX4_init 11 = .ok (.aload_n 0, 1) := by decide +kernel
theorem dX4_init_12 : decode cX4_init 12 = .ok (.iconst 4, 1) := by decide +kernel
theorem dX4_init_13 : decode cX4_init 13 = .ok (.newarray .int, 2) := by decide +kernel
theorem dX4_init_15 : decode cX4_init 15 = .ok (.putfield 15, 3) := by decide +kernel
theorem dX4_init_18 : decode cX4_init 18 = .ok (.aload_n 0, 1) := by decide +kernel
theorem dX4_init_19 : decode cX4_init 19 = .ok (.iconst 4, 1) := by decide +kernel
theorem dX4_init_20 : decode cX4_init 20 = .ok (.newarray .int, 2) := by decide +kernel
theorem dX4_init_22 : decode cX4_init 22 = .ok (.putfield 18, 3) := by decide +kernel
theorem dX4_init_25 : decode cX4_init 25 = .ok (.aload_n 0, 1) := by decide +kernel
theorem dX4_init_26 : decode cX4_init 26 = .ok (.iconst 0, 1) := by decide +kernel
theorem dX4_init_27 : decode cX4_init 27 = .ok (.putfield 21, 3) := by decide +kernel
theorem dX4_init_30 : decode cX4_init 30 = .ok (.return_, 1) := by decide +kernel
theorem dX4_add_0 : decode cX4_add 0 = .ok (.aload_n 0, 1) := by decide +kernel
theorem dX4_add_1 : decode cX4_add 1 = .ok (.getfield 21, 3) := by decide +kernel
theorem dX4_add_4 : decode cX4_add 4 = .ok (.iconst 4, 1) := by decide +kernel
theorem dX4_add_5 : decode cX4_add 5 = .ok (.if_icmp .ge 13, 3) := by decide +kernel
theorem dX4_add_8 : decode cX4_add 8 = .ok (.aload_n 0, 1) := by decide +kernel
theorem dX4_add_9 : decode cX4_add 9 = .ok (.iload_n 1, 1) := by decide +kernel
theorem dX4_add_10 : decode cX4_add 10 = .ok (.iload_n 2, 1) := by decide +kernel
theorem dX4_add_11 : decode cX4_add 11 = .ok (.invokevirtual 25, 3) := by decide +kernel
theorem dX4_add_14 : decode cX4_add 14 = .ok (.iconst (-1), 1) := by decide +kernel
theorem dX4_add_15 : decode cX4_add 15 = .ok (.if_icmp .eq 5, 3) := by decide +kernel
theorem dX4_add_18 : decode cX4_add 18 = .ok (.iconst (-1), 1) := by decide +kernel
theorem dX4_add_19 : decode cX4_add 19 = .ok (.ireturn, 1) := by decide +kernel
theorem dX4_add_20 : decode cX4_add 20 = .ok (.aload_n 0, 1) := by decide +kernel
theorem dX4_add_21 : decode cX4_add 21 = .ok (.getfield 9, 3) := by decide +kernel
theorem dX4_add_24 : decode cX4_add 24 = .ok (.aload_n 0, 1) := by decide +kernel
theorem dX4_add_25 : decode cX4_add 25 = .ok (.getfield 21, 3) := by decide +kernel
theorem dX4_add_28 : decode cX4_add 28 = .ok (.iload_n 1, 1) := by decide +kernel
theorem dX4_add_29 : decode cX4_add 29 = .ok (.iastore, 1) := by decide +kernel
theorem dX4_add_30 : decode cX4_add 30 = .ok (.aload_n 0, 1) := by decide +kernel
theorem dX4_add_31 : decode cX4_add 31 = .ok (.getfield 15, 3) := by decide +kernel
theorem dX4_add_34 : decode cX4_add 34 = .ok (.aload_n 0, 1) := by decide +kernel
theorem dX4_add_35 : decode cX4_add 35 = .ok (.getfield 21, 3) := by decide +kernel
theorem dX4_add_38 : decode cX4_add 38 = .ok (.iload_n 2, 1) := by decide +kernel
theorem dX4_add_39 : decode cX4_add 39 = .ok (.iastore, 1) := by decide +kernel
theorem dX4_add_40 : decode cX4_add 40 = .ok (.aload_n 0, 1) := by decide +kernel
theorem dX4_add_41 : decode cX4_add 41 = .ok (.getfield 18, 3) := by decide +kernel
theorem dX4_add_44 : decode cX4_add 44 = .ok (.aload_n 0, 1) := by decide +kernel
theorem dX4_add_45 : decode cX4_add 45 = .ok (.getfield 21, 3) := by decide +kernel
theorem dX4_add_48 : decode cX4_add 48 = .ok (.iload_n 3, 1) := by decide +kernel
theorem dX4_add_49 : decode cX4_add 49 = .ok (.iastore, 1) := by decide +kernel
theorem dX4_add_50 : decode cX4_add 50 = .ok (.aload_n 0, 1) := by decide +kernel
theorem dX4_add_51 : decode cX4_add 51 = .ok (.dup, 1) := by decide +kernel
theorem dX4_add_52 : decode cX4_add 52 = .ok (.getfield 21, 3) := by decide +kernel
theorem dX4_add_55 : decode cX4_add 55 = .ok (.iconst 1, 1) := by decide +kernel
theorem dX4_add_56 : decode cX4_add 56 = .ok (.iadd, 1) := by decide +kernel
theorem dX4_add_57 : decode cX4_add 57 = .ok (.putfield 21, 3) := by decide +kernel
theorem dX4_add_60 : decode cX4_add 60 = .ok (.aload_n 0, 1) := by decide +kernel
theorem dX4_add_61 : decode cX4_add 61 = .ok (.getfield 21, 3) := by decide +kernel
theorem dX4_add_64 : decode cX4_add 64 = .ok (.iconst 1, 1) := by decide +kernel
theorem dX4_add_65 : decode cX4_add 65 = .ok (.isub, 1) := by decide +kernel
theorem dX4_add_66 : decode cX4_add 66 = .ok (.ireturn, 1) := by decide +kernel
theorem dX4_standingAt_0 : decode cX4_standingAt 0 = .ok (.iconst 0, 1) := by decide +kernel
theorem dX4_standingAt_1 : decode cX4_standingAt 1 = .ok (.istore_n 3, 1) := by decide +kernel
theorem dX4_standingAt_2 : decode cX4_standingAt 2 = .ok (.iload_n 3, 1) := by decide +kernel
theorem dX4_standingAt_3 : decode cX4_standingAt 3 = .ok (.aload_n 0, 1) := by decide +kernel
theorem dX4_standingAt_4 : decode cX4_standingAt 4 = .ok (.getfield 21, 3) := by decide +kernel
theorem dX4_standingAt_7 : decode cX4_standingAt 7 = .ok (.if_icmp .ge 31, 3) := by decide +kernel
theorem dX4_standingAt_10 : decode cX4_standingAt 10 = .ok (.aload_n 0, 1) := by decide +kernel
theorem dX4_standingAt_11 : decode cX4_standingAt 11 = .ok (.getfield 9, 3) := by decide +kernel
theorem dX4_standingAt_14 : decode cX4_standingAt 14 = .ok (.iload_n 3, 1) := by decide +kernel
theorem dX4_standingAt_15 : decode cX4_standingAt 15 = .ok (.iaload, 1) := by decide +kernel
theorem dX4_standingAt_16 : decode cX4_standingAt 16 = .ok (.iload_n 1, 1) := by decide +kernel
theorem dX4_standingAt_17 : decode cX4_standingAt 17 = .ok (.if_icmp .ne 15, 3) := by decide +kernel
theorem dX4_standingAt_20 : decode cX4_standingAt 20 = .ok (.aload_n 0, 1) := by decide +kernel
theorem dX4_standingAt_21 : decode cX4_standingAt 21 = .ok (.getfield 15, 3) := by decide +kernel
theorem dX4_standingAt_24 : decode cX4_standingAt 24 = .ok (.iload_n 3, 1) := by decide +kernel
theorem dX4_standingAt_25 : decode cX4_standingAt 25 = .ok (.iaload, 1) := by decide +kernel
theorem dX4_standingAt_26 : decode cX4_standingAt 26 = .ok (.iload_n 2, 1) := by decide +kernel
theorem dX4_standingAt_27 : decode cX4_standingAt 27 = .ok (.if_icmp .ne 5, 3) := by decide +kernel
theorem dX4_standingAt_30 : decode cX4_standingAt 30 = .ok (.iload_n 3, 1) := by decide +kernel
theorem dX4_standingAt_31 : decode cX4_standingAt 31 = .ok (.ireturn, 1) := by decide +kernel
theorem dX4_standingAt_32 : decode cX4_standingAt 32 = .ok (.iinc 3 1, 3) := by decide +kernel
theorem dX4_standingAt_35 : decode cX4_standingAt 35 = .ok (.goto (-33), 3) := by decide +kernel
theorem dX4_standingAt_38 : decode cX4_standingAt 38 = .ok (.iconst (-1), 1) := by decide +kernel
theorem dX4_standingAt_39 : decode cX4_standingAt 39 = .ok (.ireturn, 1) := by decide +kernel
theorem dX4_valueAt_0 : decode cX4_valueAt 0 = .ok (.aload_n 0, 1) := by decide +kernel
theorem dX4_valueAt_1 : decode cX4_valueAt 1 = .ok (.iload_n 1, 1) := by decide +kernel
theorem dX4_valueAt_2 : decode cX4_valueAt 2 = .ok (.iload_n 2, 1) := by decide +kernel
theorem dX4_valueAt_3 : decode cX4_valueAt 3 = .ok (.invokevirtual 25, 3) := by decide +kernel
theorem dX4_valueAt_6 : decode cX4_valueAt 6 = .ok (.istore_n 3, 1) := by decide +kernel
theorem dX4_valueAt_7 : decode cX4_valueAt 7 = .ok (.iload_n 3, 1) := by decide +kernel
theorem dX4_valueAt_8 : decode cX4_valueAt 8 = .ok (.iconst (-1), 1) := by decide +kernel
theorem dX4_valueAt_9 : decode cX4_valueAt 9 = .ok (.if_icmp .ne 12, 3) := by decide +kernel
theorem dX4_valueAt_12 : decode cX4_valueAt 12 = .ok (.aload_n 0, 1) := by decide +kernel
theorem dX4_valueAt_13 : decode cX4_valueAt 13 = .ok (.iload_n 1, 1) := by decide +kernel
theorem dX4_valueAt_14 : decode cX4_valueAt 14 = .ok (.iload_n 2, 1) := by decide +kernel
theorem dX4_valueAt_15 : decode cX4_valueAt 15 = .ok (.invokevirtual 29, 3) := by decide +kernel
theorem dX4_valueAt_18 : decode cX4_valueAt 18 = .ok (.goto 9, 3) := by decide +kernel
theorem dX4_valueAt_21 : decode cX4_valueAt 21 = .ok (.aload_n 0, 1) := by decide +kernel
theorem dX4_valueAt_22 : decode cX4_valueAt 22 = .ok (.getfield 18, 3) := by decide +kernel
theorem dX4_valueAt_25 : decode cX4_valueAt 25 = .ok (.iload_n 3, 1) := by decide +kernel
theorem dX4_valueAt_26 : decode cX4_valueAt 26 = .ok (.iaload, 1) := by decide +kernel
theorem dX4_valueAt_27 : decode cX4_valueAt 27 = .ok (.ireturn, 1) := by decide +kernel
theorem dX4_weighedAt_0 : decode cX4_weighedAt 0 = .ok (.lconst 0, 1) := by decide +kernel
theorem dX4_weighedAt_1 : decode cX4_weighedAt 1 = .ok (.lstore_n 3, 1) := by decide +kernel
theorem dX4_weighedAt_2 : decode cX4_weighedAt 2 = .ok (.lconst 0, 1) := by decide +kernel
theorem dX4_weighedAt_3 : decode cX4_weighedAt 3 = .ok (.lstore 5, 2) := by decide +kernel
