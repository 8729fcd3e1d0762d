theorem dX9_worth_21 : decode cX9_worth 21 = .ok (.iadd, 1) := by decide +kernel
theorem dX9_worth_22 : decode cX9_worth 22 = .ok (.ireturn, 1) := by decide +kernel
theorem dX9_tell_0 : decode cX9_tell 0 = .ok (.iload_n 1, 1) := by decide +kernel
theorem dX9_tell_1 : decode cX9_tell 1 = .ok (.iload_n 2, 1) := by decide +kernel
theorem dX9_tell_2 : decode cX9_tell 2 = .ok (.iload_n 3, 1) := by decide +kernel
theorem dX9_tell_3 : decode cX9_tell 3 = .ok (.invokestatic 40, 3) := by decide +kernel
theorem dX9_tell_6 : decode cX9_tell 6 = .ok (.ifCond .ne 5, 3) := by decide +kernel
theorem dX9_tell_9 : decode cX9_tell 9 = .ok (.iconst (-1), 1) := by decide +kernel
theorem dX9_tell_10 : decode cX9_tell 10 = .ok (.ireturn, 1) := by decide +kernel
theorem dX9_tell_11 : decode cX9_tell 11 = .ok (.iload 4, 2) := by decide +kernel
theorem dX9_tell_13 : decode cX9_tell 13 = .ok (.ifCond .ne 17, 3) := by decide +kernel
theorem dX9_tell_16 : decode cX9_tell 16 = .ok (.aload_n 0, 1) := by decide +kernel
theorem dX9_tell_17 : decode cX9_tell 17 = .ok (.getfield 7, 3) := by decide +kernel
theorem dX9_tell_20 : decode cX9_tell 20 = .ok (.iload_n 1, 1) := by decide +kernel
theorem dX9_tell_21 : decode cX9_tell 21 = .ok (.iload_n 2, 1) := by decide +kernel
theorem dX9_tell_22 : decode cX9_tell 22 = .ok (.iload_n 3, 1) := by decide +kernel
theorem dX9_tell_23 : decode cX9_tell 23 = .ok (.invokestatic 43, 3) := by decide +kernel
theorem dX9_tell_26 : decode cX9_tell 26 = .ok (.iaload, 1) := by decide +kernel
theorem dX9_tell_27 : decode cX9_tell 27 = .ok (.goto 43, 3) := by decide +kernel
theorem dX9_tell_30 : decode cX9_tell 30 = .ok (.iload 4, 2) := by decide +kernel
theorem dX9_tell_32 : decode cX9_tell 32 = .ok (.iconst 1, 1) := by decide +kernel
theorem dX9_tell_33 : decode cX9_tell 33 = .ok (.if_icmp .ne 13, 3) := by decide +kernel
theorem dX9_tell_36 : decode cX9_tell 36 = .ok (.aload_n 0, 1) := by decide +kernel
theorem dX9_tell_37 : decode cX9_tell 37 = .ok (.iload_n 1, 1) := by decide +kernel
theorem dX9_tell_38 : decode cX9_tell 38 = .ok (.iload_n 2, 1) := by decide +kernel
theorem dX9_tell_39 : decode cX9_tell 39 = .ok (.iload_n 3, 1) := by decide +kernel
theorem dX9_tell_40 : decode cX9_tell 40 = .ok (.invokevirtual 54, 3) := by decide +kernel
theorem dX9_tell_43 : decode cX9_tell 43 = .ok (.goto 27, 3) := by decide +kernel
theorem dX9_tell_46 : decode cX9_tell 46 = .ok (.iload 4, 2) := by decide +kernel
theorem dX9_tell_48 : decode cX9_tell 48 = .ok (.iconst 2, 1) := by decide +kernel
theorem dX9_tell_49 : decode cX9_tell 49 = .ok (.if_icmp .ne 20, 3) := by decide +kernel
theorem dX9_tell_52 : decode cX9_tell 52 = .ok (.aload_n 0, 1) := by decide +kernel
theorem dX9_tell_53 : decode cX9_tell 53 = .ok (.iload_n 1, 1) := by decide +kernel
theorem dX9_tell_54 : decode cX9_tell 54 = .ok (.iload_n 2, 1) := by decide +kernel
theorem dX9_tell_55 : decode cX9_tell 55 = .ok (.invokevirtual 47, 3) := by decide +kernel
theorem dX9_tell_58 : decode cX9_tell 58 = .ok (.ifCond .eq 7, 3) := by decide +kernel
theorem dX9_tell_61 : decode cX9_tell 61 = .ok (.iconst 1, 1) := by decide +kernel
theorem dX9_tell_62 : decode cX9_tell 62 = .ok (.goto 8, 3) := by decide +kernel
theorem dX9_tell_65 : decode cX9_tell 65 = .ok (.iconst 0, 1) := by decide +kernel
theorem dX9_tell_66 : decode cX9_tell 66 = .ok (.goto 4, 3) := by decide +kernel
theorem dX9_tell_69 : decode cX9_tell 69 = .ok (.iconst (-1), 1) := by decide +kernel
theorem dX9_tell_70 : decode cX9_tell 70 = .ok (.ireturn, 1) := by decide +kernel
theorem dX9_on_0 : decode cX9_on 0 = .ok (.aload_n 0, 1) := by decide +kernel
theorem dX9_on_1 : decode cX9_on 1 = .ok (.getfield 17, 3) := by decide +kernel
theorem dX9_on_4 : decode cX9_on 4 = .ok (.bipush 32, 2) := by decide +kernel
theorem dX9_on_6 : decode cX9_on 6 = .ok (.iload_n 1, 1) := by decide +kernel
theorem dX9_on_7 : decode cX9_on 7 = .ok (.iconst 1, 1) := by decide +kernel
theorem dX9_on_8 : decode cX9_on 8 = .ok (.iadd, 1) := by decide +kernel
theorem dX9_on_9 : decode cX9_on 9 = .ok (.imul, 1) := by decide +kernel
theorem dX9_on_10 : decode cX9_on 10 = .ok (.iload_n 3, 1) := by decide +kernel
theorem dX9_on_11 : decode cX9_on 11 = .ok (.iadd, 1) := by decide +kernel
theorem dX9_on_12 : decode cX9_on 12 = .ok (.iaload, 1) := by decide +kernel
theorem dX9_on_13 : decode cX9_on 13 = .ok (.iload_n 2, 1) := by decide +kernel
theorem dX9_on_14 : decode cX9_on 14 = .ok (.iload_n 3, 1) := by decide +kernel
theorem dX9_on_15 : decode cX9_on 15 = .ok (.if_icmp .le 9, 3) := by decide +kernel
theorem dX9_on_18 : decode cX9_on 18 = .ok (.iload_n 2, 1) := by decide +kernel
theorem dX9_on_19 : decode cX9_on 19 = .ok (.iload_n 3, 1) := by decide +kernel
theorem dX9_on_20 : decode cX9_on 20 = .ok (.isub, 1) := by decide +kernel
theorem dX9_on_21 : decode cX9_on 21 = .ok (.goto 6, 3) := by decide +kernel
theorem dX9_on_24 : decode cX9_on 24 = .ok (.iload_n 3, 1) := by decide +kernel
theorem dX9_on_25 : decode cX9_on 25 = .ok (.iload_n 2, 1) := by decide +kernel
theorem dX9_on_26 : decode cX9_on 26 = .ok (.isub, 1) := by decide +kernel
theorem dX9_on_27 : decode cX9_on 27 = .ok (.isub, 1) := by decide +kernel
theorem dX9_on_28 : decode cX9_on 28 = .ok (.ireturn, 1) := by decide +kernel
theorem dX9_settles_0 : decode cX9_settles 0 = .ok (.aload_n 0, 1) := by decide +kernel
theorem dX9_settles_1 : decode cX9_settles 1 = .ok (.getfield 23, 3) := by decide +kernel
theorem dX9_settles_4 : decode cX9_settles 4 = .ok (.iload_n 2, 1) := by decide +kernel
theorem dX9_settles_5 : decode cX9_settles 5 = .ok (.baload, 1) := by decide +kernel
theorem dX9_settles_6 : decode cX9_settles 6 = .ok (.ifCond .eq 8, 3) := by decide +kernel
theorem dX9_settles_9 : decode cX9_settles 9 = .ok (.ldc 57, 2) := by decide +kernel
theorem dX9_settles_11 : decode cX9_settles 11 = .ok (.goto 4, 3) := by decide +kernel
theorem dX9_settles_14 : decode cX9_settles 14 = .ok (.iconst 0, 1) := by decide +kernel
theorem dX9_settles_15 : decode cX9_settles 15 = .ok (.istore 4, 2) := by decide +kernel
theorem dX9_settles_17 : decode cX9_settles 17 = .ok (.iload_n 2, 1) := by decide +kernel
theorem dX9_settles_18 : decode cX9_settles 18 = .ok (.istore 5, 2) := by decide +kernel
theorem dX9_settles_20 : decode cX9_settles 20 = .ok (.iload_n 3, 1) := by decide +kernel
theorem dX9_settles_21 : decode cX9_settles 21 = .ok (.iconst 3, 1) := by decide +kernel
theorem dX9_settles_22 : decode cX9_settles 22 = .ok (.if_icmp .ge 7, 3) := by decide +kernel
theorem dX9_settles_25 : decode cX9_settles 25 = .ok (.iconst 0, 1) := by decide +kernel
theorem dX9_settles_26 : decode cX9_settles 26 = .ok (.goto 6, 3) := by decide +kernel
theorem dX9_settles_29 : decode cX9_settles 29 = .ok (.iload_n 3, 1) := by decide +kernel
theorem dX9_settles_30 : decode cX9_settles 30 = .ok (.iconst 3, 1) := by decide +kernel
theorem dX9_settles_31 : decode cX9_settles 31 = .ok (.isub, 1) := by decide +kernel
theorem dX9_settles_32 : decode cX9_settles 32 = .ok (.istore 6, 2) := by decide +kernel
theorem dX9_settles_34 : decode cX9_settles 34 = .ok (.iload_n 2, 1) := by decide +kernel
theorem dX9_settles_35 : decode cX9_settles 35 = .ok (.iconst 1, 1) := by decide +kernel
theorem dX9_settles_36 : decode cX9_settles 36 = .ok (.iadd, 1) := by decide +kernel
theorem dX9_settles_37 : decode cX9_settles 37 = .ok (.bipush 24, 2) := by decide +kernel
theorem dX9_settles_39 : decode cX9_settles 39 = .ok (.if_icmp .ge 87, 3) := by decide +kernel
theorem dX9_settles_42 : decode cX9_settles 42 = .ok (.iload 6, 2) := by decide +kernel
theorem dX9_settles_44 : decode cX9_settles 44 = .ok (.iload_n 3, 1) := by decide +kernel
theorem dX9_settles_45 : decode cX9_settles 45 = .ok (.iconst 3, 1) := by decide +kernel
theorem dX9_settles_46 : decode cX9_settles 46 = .ok (.iadd, 1) := by decide +kernel
theorem dX9_settles_47 : decode cX9_settles 47 = .ok (.if_icmp .gt 79, 3) := by decide +kernel
theorem dX9_settles_50 : decode cX9_settles 50 = .ok (.iload 6, 2) := by decide +kernel
theorem dX9_settles_52 : decode cX9_settles 52 = .ok (.bipush 32, 2) := by decide +kernel
theorem dX9_settles_54 : decode cX9_settles 54 = .ok (.if_icmp .ge 72, 3) := by decide +kernel
theorem dX9_settles_57 : decode cX9_settles 57 = .ok (.aload_n 0, 1) := by decide +kernel
theorem dX9_settles_58 : decode cX9_settles 58 = .ok (.iload_n 2, 1) := by decide +kernel
theorem dX9_settles_59 : decode cX9_settles 59 = .ok (.iload_n 3, 1) := by decide +kernel
theorem dX9_settles_60 : decode cX9_settles 60 = .ok (.iload 6, 2) := by decide +kernel
theorem dX9_settles_62 : decode cX9_settles 62 = .ok (.invokevirtual 58, 3) := by decide +kernel
theorem dX9_settles_65 : decode cX9_settles 65 = .ok (.istore 7, 2) := by decide +kernel
theorem dX9_settles_67 : decode cX9_settles 67 = .ok (.iload 7, 2) := by decide +kernel
theorem dX9_settles_69 : decode cX9_settles 69 = .ok (.iload 4, 2) := by decide +kernel
theorem dX9_settles_71 : decode cX9_settles 71 = .ok (.if_icmp .gt 29, 3) := by decide +kernel
theorem dX9_settles_74 : decode cX9_settles 74 = .ok (.iload 7, 2) := by decide +kernel
theorem dX9_settles_76 : decode cX9_settles 76 = .ok (.iload 4, 2) := by decide +kernel
theorem dX9_settles_78 : decode cX9_settles 78 = .ok (.if_icmp .ne 42, 3) := by decide +kernel
theorem dX9_settles_81 : decode cX9_settles 81 = .ok (.aload_n 0, 1) := by decide +kernel
theorem dX9_settles_82 : decode cX9_settles 82 = .ok (.getfield 20, 3) := by decide +kernel
theorem dX9_settles_85 : decode cX9_settles 85 = .ok (.bipush 32, 2) := by decide +kernel
theorem dX9_settles_87 : decode cX9_settles 87 = .ok (.iload_n 2, 1) := by decide +kernel
theorem dX9_settles_88 : decode cX9_settles 88 = .ok (.iconst 1, 1) := by decide +kernel
theorem dX9_settles_89 : decode cX9_settles 89 = .ok (.iadd, 1) := by decide +kernel
theorem dX9_settles_90 : decode cX9_settles 90 = .ok (.imul, 1) := by decide +kernel
theorem dX9_settles_91 : decode cX9_settles 91 = .ok (.iload 6, 2) := by decide +kernel
theorem dX9_settles_93 : decode cX9_settles 93 = .ok (.iadd, 1) := by decide +kernel
theorem dX9_settles_94 : decode cX9_settles 94 = .ok (.iaload, 1) := by decide +kernel
theorem dX9_settles_95 : decode cX9_settles 95 = .ok (.iload 5, 2) := by decide +kernel
theorem dX9_settles_97 : decode cX9_settles 97 = .ok (.if_icmp .ge 23, 3) := by decide +kernel
theorem dX9_settles_100 : decode cX9_settles 100 = .ok (.iload 7, 2) := by decide +kernel
theorem dX9_settles_102 : decode cX9_settles 102 = .ok (.istore 4, 2) := by decide +kernel
theorem dX9_settles_104 : decode cX9_settles 104 = .ok (.aload_n 0, 1) := by decide +kernel
theorem dX9_settles_105 : decode cX9_settles 105 = .ok (.getfield 20, 3) := by decide +kernel
theorem dX9_settles_108 : decode cX9_settles 108 = .ok (.bipush 32, 2) := by decide +kernel
theorem dX9_settles_110 : decode cX9_settles 110 = .ok (.iload_n 2, 1) := by decide +kernel
theorem dX9_settles_111 : decode cX9_settles 111 = .ok (.iconst 1, 1) := by decide +kernel
theorem dX9_settles_112 : decode cX9_settles 112 = .ok (.iadd, 1) := by decide +kernel
theorem dX9_settles_113 : decode cX9_settles 113 = .ok (.imul, 1) := by decide +kernel
theorem dX9_settles_114 : decode cX9_settles 114 = .ok (.iload 6, 2) := by decide +kernel
theorem dX9_settles_116 : decode cX9_settles 116 = .ok (.iadd, 1) := by decide +kernel
theorem dX9_settles_117 : decode cX9_settles 117 = .ok (.iaload, 1) := by decide +kernel
theorem dX9_settles_118 : decode cX9_settles 118 = .ok (.istore 5, 2) := by decide +kernel
theorem dX9_settles_120 : decode cX9_settles 120 = .ok (.iinc 6 1, 3) := by decide +kernel
theorem dX9_settles_123 : decode cX9_settles 123 = .ok (.goto (-89), 3) := by decide +kernel
theorem dX9_settles_126 : decode cX9_settles 126 = .ok (.aload_n 0, 1) := by decide +kernel
theorem dX9_settles_127 : decode cX9_settles 127 = .ok (.getfield 17, 3) := by decide +kernel
theorem dX9_settles_130 : decode cX9_settles 130 = .ok (.bipush 32, 2) := by decide +kernel
theorem dX9_settles_132 : decode cX9_settles 132 = .ok (.iload_n 2, 1) := by decide +kernel
theorem dX9_settles_133 : decode cX9_settles 133 = .ok (.imul, 1) := by decide +kernel
theorem dX9_settles_134 : decode cX9_settles 134 = .ok (.iload_n 3, 1) := by decide +kernel
theorem dX9_settles_135 : decode cX9_settles 135 = .ok (.iadd, 1) := by decide +kernel
theorem dX9_settles_136 : decode cX9_settles 136 = .ok (.iload 4, 2) := by decide +kernel
theorem dX9_settles_138 : decode cX9_settles 138 = .ok (.ldc 61, 2) := by decide +kernel
theorem dX9_settles_140 : decode cX9_settles 140 = .ok (.if_icmp .ge 8, 3) := by decide +kernel
theorem dX9_settles_143 : decode cX9_settles 143 = .ok (.ldc 57, 2) := by decide +kernel
theorem dX9_settles_145 : decode cX9_settles 145 = .ok (.goto 15, 3) := by decide +kernel
theorem dX9_settles_148 : decode cX9_settles 148 = .ok (.iload 4, 2) := by decide +kernel
theorem dX9_settles_150 : decode cX9_settles 150 = .ok (.aload_n 0, 1) := by decide +kernel
theorem dX9_settles_151 : decode cX9_settles 151 = .ok (.iload_n 1, 1) := by decide +kernel
theorem dX9_settles_152 : decode cX9_settles 152 = .ok (.iload_n 2, 1) := by decide +kernel
theorem dX9_settles_153 : decode cX9_settles 153 = .ok (.iload_n 3, 1) := by decide +kernel
theorem dX9_settles_154 : decode cX9_settles 154 = .ok (.invokevirtual 54, 3) := by decide +kernel
theorem dX9_settles_157 : decode cX9_settles 157 = .ok (.iadd, 1) := by decide +kernel
theorem dX9_settles_158 : decode cX9_settles 158 = .ok (.iconst 1, 1) := by decide +kernel
theorem dX9_settles_159 : decode cX9_settles 159 = .ok (.isub, 1) := by decide +kernel
theorem dX9_settles_160 : decode cX9_settles 160 = .ok (.iastore, 1) := by decide +kernel
theorem dX9_settles_161 : decode cX9_settles 161 = .ok (.aload_n 0, 1) := by decide +kernel
theorem dX9_settles_162 : decode cX9_settles 162 = .ok (.getfield 20, 3) := by decide +kernel
theorem dX9_settles_165 : decode cX9_settles 165 = .ok (.bipush 32, 2) := by decide +kernel
theorem dX9_settles_167 : decode cX9_settles 167 = .ok (.iload_n 2, 1) := by decide +kernel
theorem dX9_settles_168 : decode cX9_settles 168 = .ok (.imul, 1) := by decide +kernel
theorem dX9_settles_169 : decode cX9_settles 169 = .ok (.iload_n 3, 1) := by decide +kernel
theorem dX9_settles_170 : decode cX9_settles 170 = .ok (.iadd, 1) := by decide +kernel
theorem dX9_settles_171 : decode cX9_settles 171 = .ok (.iload 5, 2) := by decide +kernel
theorem dX9_settles_173 : decode cX9_settles 173 = .ok (.iastore, 1) := by decide +kernel
theorem dX9_settles_174 : decode cX9_settles 174 = .ok (.return_, 1) := by decide +kernel
theorem dX9_traces_0 : decode cX9_traces 0 = .ok (.aload_n 0, 1) := by decide +kernel
theorem dX9_traces_1 : decode cX9_traces 1 = .ok (.iconst 0, 1) := by decide +kernel
theorem dX9_traces_2 : decode cX9_traces 2 = .ok (.putfield 62, 3) := by decide +kernel
theorem dX9_traces_5 : decode cX9_traces 5 = .ok (.bipush 23, 2) := by decide +kernel
theorem dX9_traces_7 : decode cX9_traces 7 = .ok (.istore_n 2, 1) := by decide +kernel
theorem dX9_traces_8 : decode cX9_traces 8 = .ok (.iload_n 2, 1) := by decide +kernel
theorem dX9_traces_9 : decode cX9_traces 9 = .ok (.ifCond .lt 42, 3) := by decide +kernel
theorem dX9_traces_12 : decode cX9_traces 12 = .ok (.aload_n 0, 1) := by decide +kernel
theorem dX9_traces_13 : decode cX9_traces 13 = .ok (.getfield 23, 3) := by decide +kernel
theorem dX9_traces_16 : decode cX9_traces 16 = .ok (.iload_n 2, 1) := by decide +kernel
theorem dX9_traces_17 : decode cX9_traces 17 = .ok (.aload_n 0, 1) := by decide +kernel
theorem dX9_traces_18 : decode cX9_traces 18 = .ok (.iload_n 1, 1) := by decide +kernel
theorem dX9_traces_19 : decode cX9_traces 19 = .ok (.iload_n 2, 1) := by decide +kernel
theorem dX9_traces_20 : decode cX9_traces 20 = .ok (.invokevirtual 47, 3) := by decide +kernel
theorem dX9_traces_23 : decode cX9_traces 23 = .ok (.bastore, 1) := by decide +kernel
theorem dX9_traces_24 : decode cX9_traces 24 = .ok (.iconst 0, 1) := by decide +kernel
theorem dX9_traces_25 : decode cX9_traces 25 = .ok (.istore_n 3, 1) := by decide +kernel
theorem dX9_traces_26 : decode cX9_traces 26 = .ok (.iload_n 3, 1) := by decide +kernel
theorem dX9_traces_27 : decode cX9_traces 27 = .ok (.bipush 32, 2) := by decide +kernel
theorem dX9_traces_29 : decode cX9_traces 29 = .ok (.if_icmp .ge 16, 3) := by decide +kernel
theorem dX9_traces_32 : decode cX9_traces 32 = .ok (.aload_n 0, 1) := by decide +kernel
theorem dX9_traces_33 : decode cX9_traces 33 = .ok (.iload_n 1, 1) := by decide +kernel
theorem dX9_traces_34 : decode cX9_traces 34 = .ok (.iload_n 2, 1) := by decide +kernel
theorem dX9_traces_35 : decode cX9_traces 35 = .ok (.iload_n 3, 1) := by decide +kernel
theorem dX9_traces_36 : decode cX9_traces 36 = .ok (.invokevirtual 66, 3) := by decide +kernel
theorem dX9_traces_39 : decode cX9_traces 39 = .ok (.iinc 3 1, 3) := by decide +kernel
theorem dX9_traces_42 : decode cX9_traces 42 = .ok (.goto (-16), 3) := by decide +kernel
theorem dX9_traces_45 : decode cX9_traces 45 = .ok (.iinc 2 (-1), 3) := by decide +kernel
theorem dX9_traces_48 : decode cX9_traces 48 = .ok (.goto (-40), 3) := by decide +kernel
theorem dX9_traces_51 : decode cX9_traces 51 = .ok (.iconst (-1), 1) := by decide +kernel
theorem dX9_traces_52 : decode cX9_traces 52 = .ok (.istore_n 2, 1) := by decide +kernel
theorem dX9_traces_53 : decode cX9_traces 53 = .ok (.iconst 0, 1) := by decide +kernel
theorem dX9_traces_54 : decode cX9_traces 54 = .ok (.istore_n 3, 1) := by decide +kernel
theorem dX9_traces_55 : decode cX9_traces 55 = .ok (.iload_n 3, 1) := by decide +kernel
theorem dX9_traces_56 : decode cX9_traces 56 = .ok (.sipush 768, 3) := by decide +kernel
theorem dX9_traces_59 : decode cX9_traces 59 = .ok (.if_icmp .ge 92, 3) := by decide +kernel
theorem dX9_traces_62 : decode cX9_traces 62 = .ok (.aload_n 0, 1) := by decide +kernel
theorem dX9_traces_63 : decode cX9_traces 63 = .ok (.getfield 23, 3) := by decide +kernel
theorem dX9_traces_66 : decode cX9_traces 66 = .ok (.iload_n 3, 1) := by decide +kernel
theorem dX9_traces_67 : decode cX9_traces 67 = .ok (.bipush 32, 2) := by decide +kernel
theorem dX9_traces_69 : decode cX9_traces 69 = .ok (.idiv, 1) := by decide +kernel
theorem dX9_traces_70 : decode cX9_traces 70 = .ok (.baload, 1) := by decide +kernel
theorem dX9_traces_71 : decode cX9_traces 71 = .ok (.ifCond .ne 74, 3) := by decide +kernel
theorem dX9_traces_74 : decode cX9_traces 74 = .ok (.aload_n 0, 1) := by decide +kernel
theorem dX9_traces_75 : decode cX9_traces 75 = .ok (.getfield 17, 3) := by decide +kernel
theorem dX9_traces_78 : decode cX9_traces 78 = .ok (.iload_n 3, 1) := by decide +kernel
theorem dX9_traces_79 : decode cX9_traces 79 = .ok (.iaload, 1) := by decide +kernel
theorem dX9_traces_80 : decode cX9_traces 80 = .ok (.aload_n 0, 1) := by decide +kernel
theorem dX9_traces_81 : decode cX9_traces 81 = .ok (.getfield 62, 3) := by decide +kernel
theorem dX9_traces_84 : decode cX9_traces 84 = .ok (.if_icmp .gt 49, 3) := by decide +kernel
theorem dX9_traces_87 : decode cX9_traces 87 = .ok (.iload_n 2, 1) := by decide +kernel
theorem dX9_traces_88 : decode cX9_traces 88 = .ok (.ifCond .lt 57, 3) := by decide +kernel
theorem dX9_traces_91 : decode cX9_traces 91 = .ok (.aload_n 0, 1) := by decide +kernel
theorem dX9_traces_92 : decode cX9_traces 92 = .ok (.getfield 17, 3) := by decide +kernel
theorem dX9_traces_95 : decode cX9_traces 95 = .ok (.iload_n 3, 1) := by decide +kernel
theorem dX9_traces_96 : decode cX9_traces 96 = .ok (.iaload, 1) := by decide +kernel
theorem dX9_traces_97 : decode cX9_traces 97 = .ok (.aload_n 0, 1) := by decide +kernel
theorem dX9_traces_98 : decode cX9_traces 98 = .ok (.getfield 62, 3) := by decide +kernel
theorem dX9_traces_101 : decode cX9_traces 101 = .ok (.if_icmp .lt 44, 3) := by decide +kernel
theorem dX9_traces_104 : decode cX9_traces 104 = .ok (.iload_n 3, 1) := by decide +kernel
theorem dX9_traces_105 : decode cX9_traces 105 = .ok (.bipush 32, 2) := by decide +kernel
theorem dX9_traces_107 : decode cX9_traces 107 = .ok (.idiv, 1) := by decide +kernel
theorem dX9_traces_108 : decode cX9_traces 108 = .ok (.iload_n 2, 1) := by decide +kernel
theorem dX9_traces_109 : decode cX9_traces 109 = .ok (.bipush 32, 2) := by decide +kernel
theorem dX9_traces_111 : decode cX9_traces 111 = .ok (.idiv, 1) := by decide +kernel
theorem dX9_traces_112 : decode cX9_traces 112 = .ok (.if_icmp .gt 33, 3) := by decide +kernel
theorem dX9_traces_115 : decode cX9_traces 115 = .ok (.aload_n 0, 1) := by decide +kernel
theorem dX9_traces_116 : decode cX9_traces 116 = .ok (.getfield 20, 3) := by decide +kernel
theorem dX9_traces_119 : decode cX9_traces 119 = .ok (.iload_n 3, 1) := by decide +kernel
theorem dX9_traces_120 : decode cX9_traces 120 = .ok (.iaload, 1) := by decide +kernel
theorem dX9_traces_121 : decode cX9_traces 121 = .ok (.aload_n 0, 1) := by decide +kernel
theorem dX9_traces_122 : decode cX9_traces 122 = .ok (.getfield 20, 3) := by decide +kernel
theorem dX9_traces_125 : decode cX9_traces 125 = .ok (.iload_n 2, 1) := by decide +kernel
theorem dX9_traces_126 : decode cX9_traces 126 = .ok (.iaload, 1) := by decide +kernel
theorem dX9_traces_127 : decode cX9_traces 127 = .ok (.if_icmp .lt 6, 3) := by decide +kernel
theorem dX9_traces_130 : decode cX9_traces 130 = .ok (.goto 15, 3) := by decide +kernel
theorem dX9_traces_133 : decode cX9_traces 133 = .ok (.aload_n 0, 1) := by decide +kernel
theorem dX9_traces_134 : decode cX9_traces 134 = .ok (.aload_n 0, 1) := by decide +kernel
theorem dX9_traces_135 : decode cX9_traces 135 = .ok (.getfield 17, 3) := by decide +kernel
theorem dX9_traces_138 : decode cX9_traces 138 = .ok (.iload_n 3, 1) := by decide +kernel
theorem dX9_traces_139 : decode cX9_traces 139 = .ok (.iaload, 1) := by decide +kernel
theorem dX9_traces_140 : decode cX9_traces 140 = .ok (.putfield 62, 3) := by decide +kernel
theorem dX9_traces_143 : decode cX9_traces 143 = .ok (.iload_n 3, 1) := by decide +kernel
theorem dX9_traces_144 : decode cX9_traces 144 = .ok (.istore_n 2, 1) := by decide +kernel
theorem dX9_traces_145 : decode cX9_traces 145 = .ok (.iinc 3 1, 3) := by decide +kernel
theorem dX9_traces_148 : decode cX9_traces 148 = .ok (.goto (-93), 3) := by decide +kernel
theorem dX9_traces_151 : decode cX9_traces 151 = .ok (.iload_n 2, 1) := by decide +kernel
theorem dX9_traces_152 : decode cX9_traces 152 = .ok (.ifCond .ge 5, 3) := by decide +kernel
theorem dX9_traces_155 : decode cX9_traces 155 = .ok (.iconst 0, 1) := by decide +kernel
theorem dX9_traces_156 : decode cX9_traces 156 = .ok (.ireturn, 1) := by decide +kernel
theorem dX9_traces_157 : decode cX9_traces 157 = .ok (.aload_n 0, 1) := by decide +kernel
theorem dX9_traces_158 : decode cX9_traces 158 = .ok (.iload_n 2, 1) := by decide +kernel
theorem dX9_traces_159 : decode cX9_traces 159 = .ok (.bipush 32, 2) := by decide +kernel
theorem dX9_traces_161 : decode cX9_traces 161 = .ok (.idiv, 1) := by decide +kernel
theorem dX9_traces_162 : decode cX9_traces 162 = .ok (.putfield 70, 3) := by decide +kernel
theorem dX9_traces_165 : decode cX9_traces 165 = .ok (.aload_n 0, 1) := by decide +kernel
theorem dX9_traces_166 : decode cX9_traces 166 = .ok (.aload_n 0, 1) := by decide +kernel
theorem dX9_traces_167 : decode cX9_traces 167 = .ok (.getfield 20, 3) := by decide +kernel
theorem dX9_traces_170 : decode cX9_traces 170 = .ok (.iload_n 2, 1) := by decide +kernel
theorem dX9_traces_171 : decode cX9_traces 171 = .ok (.iaload, 1) := by decide +kernel
theorem dX9_traces_172 : decode cX9_traces 172 = .ok (.putfield 73, 3) := by decide +kernel
theorem dX9_traces_175 : decode cX9_traces 175 = .ok (.iload_n 2, 1) := by decide +kernel
theorem dX9_traces_176 : decode cX9_traces 176 = .ok (.bipush 32, 2) := by decide +kernel
theorem dX9_traces_178 : decode cX9_traces 178 = .ok (.irem, 1) := by decide +kernel
theorem dX9_traces_179 : decode cX9_traces 179 = .ok (.istore_n 3, 1) := by decide +kernel
theorem dX9_traces_180 : decode cX9_traces 180 = .ok (.aload_n 0, 1) := by decide +kernel
theorem dX9_traces_181 : decode cX9_traces 181 = .ok (.getfield 26, 3) := by decide +kernel
theorem dX9_traces_184 : decode cX9_traces 184 = .ok (.aload_n 0, 1) := by decide +kernel
theorem dX9_traces_185 : decode cX9_traces 185 = .ok (.getfield 70, 3) := by decide +kernel
theorem dX9_traces_188 : decode cX9_traces 188 = .ok (.iload_n 3, 1) := by decide +kernel
theorem dX9_traces_189 : decode cX9_traces 189 = .ok (.iastore, 1) := by decide +kernel
theorem dX9_traces_190 : decode cX9_traces 190 = .ok (.aload_n 0, 1) := by decide +kernel
theorem dX9_traces_191 : decode cX9_traces 191 = .ok (.getfield 70, 3) := by decide +kernel
theorem dX9_traces_194 : decode cX9_traces 194 = .ok (.istore 4, 2) := by decide +kernel
theorem dX9_traces_196 : decode cX9_traces 196 = .ok (.iload 4, 2) := by decide +kernel
theorem dX9_traces_198 : decode cX9_traces 198 = .ok (.aload_n 0, 1) := by decide +kernel
theorem dX9_traces_199 : decode cX9_traces 199 = .ok (.getfield 73, 3) := by decide +kernel
theorem dX9_traces_202 : decode cX9_traces 202 = .ok (.if_icmp .ge 28, 3) := by decide +kernel
theorem dX9_traces_205 : decode cX9_traces 205 = .ok (.aload_n 0, 1) := by decide +kernel
theorem dX9_traces_206 : decode cX9_traces 206 = .ok (.iload_n 1, 1) := by decide +kernel
theorem dX9_traces_207 : decode cX9_traces 207 = .ok (.iload 4, 2) := by decide +kernel
theorem dX9_traces_209 : decode cX9_traces 209 = .ok (.iload_n 3, 1) := by decide +kernel
theorem dX9_traces_210 : decode cX9_traces 210 = .ok (.invokevirtual 76, 3) := by decide +kernel
theorem dX9_traces_213 : decode cX9_traces 213 = .ok (.istore_n 3, 1) := by decide +kernel
theorem dX9_traces_214 : decode cX9_traces 214 = .ok (.aload_n 0, 1) := by decide +kernel
theorem dX9_traces_215 : decode cX9_traces 215 = .ok (.getfield 26, 3) := by decide +kernel
theorem dX9_traces_218 : decode cX9_traces 218 = .ok (.iload 4, 2) := by decide +kernel
theorem dX9_traces_220 : decode cX9_traces 220 = .ok (.iconst 1, 1) := by decide +kernel
theorem dX9_traces_221 : decode cX9_traces 221 = .ok (.iadd, 1) := by decide +kernel
theorem dX9_traces_222 : decode cX9_traces 222 = .ok (.iload_n 3, 1) := by decide +kernel
theorem dX9_traces_223 : decode cX9_traces 223 = .ok (.iastore, 1) := by decide +kernel
theorem dX9_traces_224 : decode cX9_traces 224 = .ok (.iinc 4 1, 3) := by decide +kernel
theorem dX9_traces_227 : decode cX9_traces 227 = .ok (.goto (-31), 3) := by decide +kernel
theorem dX9_traces_230 : decode cX9_traces 230 = .ok (.iconst 1, 1) := by decide +kernel
theorem dX9_traces_231 : decode cX9_traces 231 = .ok (.ireturn, 1) := by decide +kernel
theorem dX9_next_0 : decode cX9_next 0 = .ok (.aload_n 0, 1) := by decide +kernel
theorem dX9_next_1 : decode cX9_next 1 = .ok (.getfield 17, 3) := by decide +kernel
theorem dX9_next_4 : decode cX9_next 4 = .ok (.bipush 32, 2) := by decide +kernel
theorem dX9_next_6 : decode cX9_next 6 = .ok (.iload_n 2, 1) := by decide +kernel
theorem dX9_next_7 : decode cX9_next 7 = .ok (.imul, 1) := by decide +kernel
theorem dX9_next_8 : decode cX9_next 8 = .ok (.iload_n 3, 1) := by decide +kernel
theorem dX9_next_9 : decode cX9_next 9 = .ok (.iadd, 1) := by decide +kernel
theorem dX9_next_10 : decode cX9_next 10 = .ok (.iaload, 1) := by decide +kernel
theorem dX9_next_11 : decode cX9_next 11 = .ok (.aload_n 0, 1) := by decide +kernel
theorem dX9_next_12 : decode cX9_next 12 = .ok (.iload_n 1, 1) := by decide +kernel
theorem dX9_next_13 : decode cX9_next 13 = .ok (.iload_n 2, 1) := by decide +kernel
theorem dX9_next_14 : decode cX9_next 14 = .ok (.iload_n 3, 1) := by decide +kernel
theorem dX9_next_15 : decode cX9_next 15 = .ok (.invokevirtual 54, 3) := by decide +kernel
theorem dX9_next_18 : decode cX9_next 18 = .ok (.isub, 1) := by decide +kernel
theorem dX9_next_19 : decode cX9_next 19 = .ok (.iconst 1, 1) := by decide +kernel
theorem dX9_next_20 : decode cX9_next 20 = .ok (.iadd, 1) := by decide +kernel
theorem dX9_next_21 : decode cX9_next 21 = .ok (.istore 4, 2) := by decide +kernel
theorem dX9_next_23 : decode cX9_next 23 = .ok (.iload_n 3, 1) := by decide +kernel
theorem dX9_next_24 : decode cX9_next 24 = .ok (.iconst 3, 1) := by decide +kernel
theorem dX9_next_25 : decode cX9_next 25 = .ok (.if_icmp .ge 7, 3) := by decide +kernel
theorem dX9_next_28 : decode cX9_next 28 = .ok (.iconst 0, 1) := by decide +kernel
theorem dX9_next_29 : decode cX9_next 29 = .ok (.goto 6, 3) := by decide +kernel
theorem dX9_next_32 : decode cX9_next 32 = .ok (.iload_n 3, 1) := by decide +kernel
theorem dX9_next_33 : decode cX9_next 33 = .ok (.iconst 3, 1) := by decide +kernel
theorem dX9_next_34 : decode cX9_next 34 = .ok (.isub, 1) := by decide +kernel
theorem dX9_next_35 : decode cX9_next 35 = .ok (.istore 5, 2) := by decide +kernel
theorem dX9_next_37 : decode cX9_next 37 = .ok (.aload_n 0, 1) := by decide +kernel
theorem dX9_next_38 : decode cX9_next 38 = .ok (.iload_n 2, 1) := by decide +kernel
theorem dX9_next_39 : decode cX9_next 39 = .ok (.iload_n 3, 1) := by decide +kernel
theorem dX9_next_40 : decode cX9_next 40 = .ok (.iload 5, 2) := by decide +kernel
theorem dX9_next_42 : decode cX9_next 42 = .ok (.invokevirtual 58, 3) := by decide +kernel
theorem dX9_next_45 : decode cX9_next 45 = .ok (.iload 4, 2) := by decide +kernel
theorem dX9_next_47 : decode cX9_next 47 = .ok (.if_icmp .ne 24, 3) := by decide +kernel
theorem dX9_next_50 : decode cX9_next 50 = .ok (.aload_n 0, 1) := by decide +kernel
theorem dX9_next_51 : decode cX9_next 51 = .ok (.getfield 20, 3) := by decide +kernel
theorem dX9_next_54 : decode cX9_next 54 = .ok (.bipush 32, 2) := by decide +kernel
theorem dX9_next_56 : decode cX9_next 56 = .ok (.iload_n 2, 1) := by decide +kernel
theorem dX9_next_57 : decode cX9_next 57 = .ok (.iconst 1, 1) := by decide +kernel
theorem dX9_next_58 : decode cX9_next 58 = .ok (.iadd, 1) := by decide +kernel
theorem dX9_next_59 : decode cX9_next 59 = .ok (.imul, 1) := by decide +kernel
theorem dX9_next_60 : decode cX9_next 60 = .ok (.iload 5, 2) := by decide +kernel
theorem dX9_next_62 : decode cX9_next 62 = .ok (.iadd, 1) := by decide +kernel
theorem dX9_next_63 : decode cX9_next 63 = .ok (.iaload, 1) := by decide +kernel
theorem dX9_next_64 : decode cX9_next 64 = .ok (.aload_n 0, 1) := by decide +kernel
theorem dX9_next_65 : decode cX9_next 65 = .ok (.getfield 73, 3) := by decide +kernel
theorem dX9_next_68 : decode cX9_next 68 = .ok (.if_icmp .eq 9, 3) := by decide +kernel
theorem dX9_next_71 : decode cX9_next 71 = .ok (.iinc 5 1, 3) := by decide +kernel
theorem dX9_next_74 : decode cX9_next 74 = .ok (.goto (-37), 3) := by decide +kernel
theorem dX9_next_77 : decode cX9_next 77 = .ok (.iload 5, 2) := by decide +kernel
theorem dX9_next_79 : decode cX9_next 79 = .ok (.ireturn, 1) := by decide +kernel
theorem dX9_letter_0 : decode cX9_letter 0 = .ok (.aload_n 0, 1) := by decide +kernel
theorem dX9_letter_1 : decode cX9_letter 1 = .ok (.getfield 73, 3) := by decide +kernel
theorem dX9_letter_4 : decode cX9_letter 4 = .ok (.bipush 23, 2) := by decide +kernel
theorem dX9_letter_6 : decode cX9_letter 6 = .ok (.if_icmp .eq 17, 3) := by decide +kernel
theorem dX9_letter_9 : decode cX9_letter 9 = .ok (.aload_n 0, 1) := by decide +kernel
theorem dX9_letter_10 : decode cX9_letter 10 = .ok (.iload_n 1, 1) := by decide +kernel
theorem dX9_letter_11 : decode cX9_letter 11 = .ok (.aload_n 0, 1) := by decide +kernel
theorem dX9_letter_12 : decode cX9_letter 12 = .ok (.getfield 73, 3) := by decide +kernel
theorem dX9_letter_15 : decode cX9_letter 15 = .ok (.iconst 1, 1) := by decide +kernel
theorem dX9_letter_16 : decode cX9_letter 16 = .ok (.iadd, 1) := by decide +kernel
theorem dX9_letter_17 : decode cX9_letter 17 = .ok (.invokevirtual 47, 3) := by decide +kernel
theorem dX9_letter_20 : decode cX9_letter 20 = .ok (.ifCond .eq 7, 3) := by decide +kernel
theorem dX9_letter_23 : decode cX9_letter 23 = .ok (.iconst 1, 1) := by decide +kernel
theorem dX9_letter_24 : decode cX9_letter 24 = .ok (.goto 4, 3) := by decide +kernel
theorem dX9_letter_27 : decode cX9_letter 27 = .ok (.iconst 0, 1) := by decide +kernel
theorem dX9_letter_28 : decode cX9_letter 28 = .ok (.ireturn, 1) := by decide +kernel
theorem dX9_trace_0 : decode cX9_trace 0 = .ok (.iload_n 1, 1) := by decide +kernel
theorem dX9_trace_1 : decode cX9_trace 1 = .ok (.invokestatic 36, 3) := by decide +kernel
theorem dX9_trace_4 : decode cX9_trace 4 = .ok (.ifCond .eq 20, 3) := by decide +kernel
theorem dX9_trace_7 : decode cX9_trace 7 = .ok (.iload_n 2, 1) := by decide +kernel
theorem dX9_trace_8 : decode cX9_trace 8 = .ok (.iconst 0, 1) := by decide +kernel
theorem dX9_trace_9 : decode cX9_trace 9 = .ok (.iconst 3, 1) := by decide +kernel
theorem dX9_trace_10 : decode cX9_trace 10 = .ok (.invokestatic 32, 3) := by decide +kernel
theorem dX9_trace_13 : decode cX9_trace 13 = .ok (.ifCond .eq 11, 3) := by decide +kernel
theorem dX9_trace_16 : decode cX9_trace 16 = .ok (.aload_n 0, 1) := by decide +kernel
theorem dX9_trace_17 : decode cX9_trace 17 = .ok (.iload_n 1, 1) := by decide +kernel
theorem dX9_trace_18 : decode cX9_trace 18 = .ok (.invokevirtual 79, 3) := by decide +kernel
theorem dX9_trace_21 : decode cX9_trace 21 = .ok (.ifCond .ne 5, 3) := by decide +kernel
theorem dX9_trace_24 : decode cX9_trace 24 = .ok (.iconst (-1), 1) := by decide +kernel
theorem dX9_trace_25 : decode cX9_trace 25 = .ok (.ireturn, 1) := by decide +kernel
theorem dX9_trace_26 : decode cX9_trace 26 = .ok (.iload_n 2, 1) := by decide +kernel
theorem dX9_trace_27 : decode cX9_trace 27 = .ok (.ifCond .ne 10, 3) := by decide +kernel
theorem dX9_trace_30 : decode cX9_trace 30 = .ok (.aload_n 0, 1) := by decide +kernel
theorem dX9_trace_31 : decode cX9_trace 31 = .ok (.getfield 62, 3) := by decide +kernel
theorem dX9_trace_34 : decode cX9_trace 34 = .ok (.goto 32, 3) := by decide +kernel
theorem dX9_trace_37 : decode cX9_trace 37 = .ok (.iload_n 2, 1) := by decide +kernel
theorem dX9_trace_38 : decode cX9_trace 38 = .ok (.iconst 1, 1) := by decide +kernel
theorem dX9_trace_39 : decode cX9_trace 39 = .ok (.if_icmp .ne 10, 3) := by decide +kernel
theorem dX9_trace_42 : decode cX9_trace 42 = .ok (.aload_n 0, 1) := by decide +kernel
theorem dX9_trace_43 : decode cX9_trace 43 = .ok (.getfield 70, 3) := by decide +kernel
theorem dX9_trace_46 : decode cX9_trace 46 = .ok (.goto 20, 3) := by decide +kernel
theorem dX9_trace_49 : decode cX9_trace 49 = .ok (.iload_n 2, 1) := by decide +kernel
theorem dX9_trace_50 : decode cX9_trace 50 = .ok (.iconst 2, 1) := by decide +kernel
theorem dX9_trace_51 : decode cX9_trace 51 = .ok (.if_icmp .ne 10, 3) := by decide +kernel
theorem dX9_trace_54 : decode cX9_trace 54 = .ok (.aload_n 0, 1) := by decide +kernel
theorem dX9_trace_55 : decode cX9_trace 55 = .ok (.getfield 73, 3) := by decide +kernel
theorem dX9_trace_58 : decode cX9_trace 58 = .ok (.goto 8, 3) := by decide +kernel
theorem dX9_trace_61 : decode cX9_trace 61 = .ok (.aload_n 0, 1) := by decide +kernel
theorem dX9_trace_62 : decode cX9_trace 62 = .ok (.iload_n 1, 1) := by decide +kernel
theorem dX9_trace_63 : decode cX9_trace 63 = .ok (.invokevirtual 82, 3) := by decide +kernel
theorem dX9_trace_66 : decode cX9_trace 66 = .ok (.ireturn, 1) := by decide +kernel
theorem dX9_height_0 : decode cX9_height 0 = .ok (.iload_n 1, 1) := by decide +kernel
theorem dX9_height_1 : decode cX9_height 1 = .ok (.invokestatic 36, 3) := by decide +kernel
theorem dX9_height_4 : decode cX9_height 4 = .ok (.ifCond .eq 35, 3) := by decide +kernel
theorem dX9_height_7 : decode cX9_height 7 = .ok (.aload_n 0, 1) := by decide +kernel
theorem dX9_height_8 : decode cX9_height 8 = .ok (.iload_n 1, 1) := by decide +kernel
theorem dX9_height_9 : decode cX9_height 9 = .ok (.invokevirtual 79, 3) := by decide +kernel
theorem dX9_height_12 : decode cX9_height 12 = .ok (.ifCond .eq 27, 3) := by decide +kernel
theorem dX9_height_15 : decode cX9_height 15 = .ok (.iload_n 2, 1) := by decide +kernel
theorem dX9_height_16 : decode cX9_height 16 = .ok (.aload_n 0, 1) := by decide +kernel
theorem dX9_height_17 : decode cX9_height 17 = .ok (.getfield 70, 3) := by decide +kernel
theorem dX9_height_20 : decode cX9_height 20 = .ok (.aload_n 0, 1) := by decide +kernel
theorem dX9_height_21 : decode cX9_height 21 = .ok (.getfield 73, 3) := by decide +kernel
theorem dX9_height_24 : decode cX9_height 24 = .ok (.invokestatic 32, 3) := by decide +kernel
theorem dX9_height_27 : decode cX9_height 27 = .ok (.ifCond .eq 12, 3) := by decide +kernel
theorem dX9_height_30 : decode cX9_height 30 = .ok (.aload_n 0, 1) := by decide +kernel
theorem dX9_height_31 : decode cX9_height 31 = .ok (.getfield 26, 3) := by decide +kernel
theorem dX9_height_34 : decode cX9_height 34 = .ok (.iload_n 2, 1) := by decide +kernel
theorem dX9_height_35 : decode cX9_height 35 = .ok (.iaload, 1) := by decide +kernel
theorem dX9_height_36 : decode cX9_height 36 = .ok (.goto 4, 3) := by decide +kernel
theorem dX9_height_39 : decode cX9_height 39 = .ok (.iconst (-1), 1) := by decide +kernel
theorem dX9_height_40 : decode cX9_height 40 = .ok (.ireturn, 1) := by decide +kernel
theorem dX9_by_0 : decode cX9_by 0 = .ok (.bipush 100, 2) := by decide +kernel
theorem dX9_by_2 : decode cX9_by 2 = .ok (.bipush 100, 2) := by decide +kernel
theorem dX9_by_4 : decode cX9_by 4 = .ok (.iload_n 0, 1) := by decide +kernel
theorem dX9_by_5 : decode cX9_by 5 = .ok (.imul, 1) := by decide +kernel
theorem dX9_by_6 : decode cX9_by 6 = .ok (.iload_n 1, 1) := by decide +kernel
theorem dX9_by_7 : decode cX9_by 7 = .ok (.iconst 1, 1) := by decide +kernel
theorem dX9_by_8 : decode cX9_by 8 = .ok (.iadd, 1) := by decide +kernel
theorem dX9_by_9 : decode cX9_by 9 = .ok (.idiv, 1) := by decide +kernel
theorem dX9_by_10 : decode cX9_by 10 = .ok (.iadd, 1) := by decide +kernel
theorem dX9_by_11 : decode cX9_by 11 = .ok (.ireturn, 1) := by decide +kernel
theorem dX9_undoes_0 : decode cX9_undoes 0 = .ok (.iconst 0, 1) := by decide +kernel
theorem dX9_undoes_1 : decode cX9_undoes 1 = .ok (.istore_n 1, 1) := by decide +kernel
theorem dX9_undoes_2 : decode cX9_undoes 2 = .ok (.iload_n 1, 1) := by decide +kernel
theorem dX9_undoes_3 : decode cX9_undoes 3 = .ok (.aload_n 0, 1) := by decide +kernel
theorem dX9_undoes_4 : decode cX9_undoes 4 = .ok (.getfield 73, 3) := by decide +kernel
theorem dX9_undoes_7 : decode cX9_undoes 7 = .ok (.aload_n 0, 1) := by decide +kernel
theorem dX9_undoes_8 : decode cX9_undoes 8 = .ok (.getfield 70, 3) := by decide +kernel
theorem dX9_undoes_11 : decode cX9_undoes 11 = .ok (.isub, 1) := by decide +kernel
theorem dX9_undoes_12 : decode cX9_undoes 12 = .ok (.if_icmp .gt 78, 3) := by decide +kernel
theorem dX9_undoes_15 : decode cX9_undoes 15 = .ok (.ldc 86, 2) := by decide +kernel
theorem dX9_undoes_17 : decode cX9_undoes 17 = .ok (.aload_n 0, 1) := by decide +kernel
theorem dX9_undoes_18 : decode cX9_undoes 18 = .ok (.getfield 26, 3) := by decide +kernel
theorem dX9_undoes_21 : decode cX9_undoes 21 = .ok (.aload_n 0, 1) := by decide +kernel
theorem dX9_undoes_22 : decode cX9_undoes 22 = .ok (.getfield 70, 3) := by decide +kernel
theorem dX9_undoes_25 : decode cX9_undoes 25 = .ok (.iload_n 1, 1) := by decide +kernel
theorem dX9_undoes_26 : decode cX9_undoes 26 = .ok (.iadd, 1) := by decide +kernel
theorem dX9_undoes_27 : decode cX9_undoes 27 = .ok (.iaload, 1) := by decide +kernel
theorem dX9_undoes_28 : decode cX9_undoes 28 = .ok (.iconst 1, 1) := by decide +kernel
theorem dX9_undoes_29 : decode cX9_undoes 29 = .ok (.iadd, 1) := by decide +kernel
theorem dX9_undoes_30 : decode cX9_undoes 30 = .ok (.imul, 1) := by decide +kernel
theorem dX9_undoes_31 : decode cX9_undoes 31 = .ok (.istore_n 2, 1) := by decide +kernel
theorem dX9_undoes_32 : decode cX9_undoes 32 = .ok (.iconst 0, 1) := by decide +kernel
theorem dX9_undoes_33 : decode cX9_undoes 33 = .ok (.istore_n 3, 1) := by decide +kernel
theorem dX9_undoes_34 : decode cX9_undoes 34 = .ok (.iload_n 3, 1) := by decide +kernel
theorem dX9_undoes_35 : decode cX9_undoes 35 = .ok (.iload_n 1, 1) := by decide +kernel
theorem dX9_undoes_36 : decode cX9_undoes 36 = .ok (.if_icmp .ge 24, 3) := by decide +kernel
theorem dX9_undoes_39 : decode cX9_undoes 39 = .ok (.iload_n 2, 1) := by decide +kernel
theorem dX9_undoes_40 : decode cX9_undoes 40 = .ok (.iload_n 3, 1) := by decide +kernel
theorem dX9_undoes_41 : decode cX9_undoes 41 = .ok (.iload_n 1, 1) := by decide +kernel
theorem dX9_undoes_42 : decode cX9_undoes 42 = .ok (.invokestatic 87, 3) := by decide +kernel
theorem dX9_undoes_45 : decode cX9_undoes 45 = .ok (.aload_n 0, 1) := by decide +kernel
theorem dX9_undoes_46 : decode cX9_undoes 46 = .ok (.getfield 29, 3) := by decide +kernel
theorem dX9_undoes_49 : decode cX9_undoes 49 = .ok (.iload_n 3, 1) := by decide +kernel
theorem dX9_undoes_50 : decode cX9_undoes 50 = .ok (.iaload, 1) := by decide +kernel
theorem dX9_undoes_51 : decode cX9_undoes 51 = .ok (.imul, 1) := by decide +kernel
theorem dX9_undoes_52 : decode cX9_undoes 52 = .ok (.isub, 1) := by decide +kernel
theorem dX9_undoes_53 : decode cX9_undoes 53 = .ok (.istore_n 2, 1) := by decide +kernel
theorem dX9_undoes_54 : decode cX9_undoes 54 = .ok (.iinc 3 1, 3) := by decide +kernel
theorem dX9_undoes_57 : decode cX9_undoes 57 = .ok (.goto (-23), 3) := by decide +kernel
theorem dX9_undoes_60 : decode cX9_undoes 60 = .ok (.aload_n 0, 1) := by decide +kernel
theorem dX9_undoes_61 : decode cX9_undoes 61 = .ok (.getfield 29, 3) := by decide +kernel
theorem dX9_undoes_64 : decode cX9_undoes 64 = .ok (.iload_n 1, 1) := by decide +kernel
theorem dX9_undoes_65 : decode cX9_undoes 65 = .ok (.iload_n 2, 1) := by decide +kernel
theorem dX9_undoes_66 : decode cX9_undoes 66 = .ok (.iload_n 1, 1) := by decide +kernel
theorem dX9_undoes_67 : decode cX9_undoes 67 = .ok (.iload_n 1, 1) := by decide +kernel
theorem dX9_undoes_68 : decode cX9_undoes 68 = .ok (.invokestatic 87, 3) := by decide +kernel
theorem dX9_undoes_71 : decode cX9_undoes 71 = .ok (.idiv, 1) := by decide +kernel
theorem dX9_undoes_72 : decode cX9_undoes 72 = .ok (.iastore, 1) := by decide +kernel
theorem dX9_undoes_73 : decode cX9_undoes 73 = .ok (.aload_n 0, 1) := by decide +kernel
theorem dX9_undoes_74 : decode cX9_undoes 74 = .ok (.getfield 29, 3) := by decide +kernel
theorem dX9_undoes_77 : decode cX9_undoes 77 = .ok (.iload_n 1, 1) := by decide +kernel
theorem dX9_undoes_78 : decode cX9_undoes 78 = .ok (.iaload, 1) := by decide +kernel
theorem dX9_undoes_79 : decode cX9_undoes 79 = .ok (.ifCond .gt 5, 3) := by decide +kernel
theorem dX9_undoes_82 : decode cX9_undoes 82 = .ok (.iload_n 1, 1) := by decide +kernel
theorem dX9_undoes_83 : decode cX9_undoes 83 = .ok (.ireturn, 1) := by decide +kernel
theorem dX9_undoes_84 : decode cX9_undoes 84 = .ok (.iinc 1 1, 3) := by decide +kernel
theorem dX9_undoes_87 : decode cX9_undoes 87 = .ok (.goto (-85), 3) := by decide +kernel
theorem dX9_undoes_90 : decode cX9_undoes 90 = .ok (.aload_n 0, 1) := by decide +kernel
theorem dX9_undoes_91 : decode cX9_undoes 91 = .ok (.getfield 73, 3) := by decide +kernel
theorem dX9_undoes_94 : decode cX9_undoes 94 = .ok (.aload_n 0, 1) := by decide +kernel
theorem dX9_undoes_95 : decode cX9_undoes 95 = .ok (.getfield 70, 3) := by decide +kernel
theorem dX9_undoes_98 : decode cX9_undoes 98 = .ok (.isub, 1) := by decide +kernel
theorem dX9_undoes_99 : decode cX9_undoes 99 = .ok (.iconst 1, 1) := by decide +kernel
theorem dX9_undoes_100 : decode cX9_undoes 100 = .ok (.iadd, 1) := by decide +kernel
theorem dX9_undoes_101 : decode cX9_undoes 101 = .ok (.ireturn, 1) := by decide +kernel
theorem dX9_undone_0 : decode cX9_undone 0 = .ok (.iload_n 1, 1) := by decide +kernel
theorem dX9_undone_1 : decode cX9_undone 1 = .ok (.invokestatic 36, 3) := by decide +kernel
theorem dX9_undone_4 : decode cX9_undone 4 = .ok (.ifCond .eq 18, 3) := by decide +kernel
theorem dX9_undone_7 : decode cX9_undone 7 = .ok (.aload_n 0, 1) := by decide +kernel
theorem dX9_undone_8 : decode cX9_undone 8 = .ok (.iload_n 1, 1) := by decide +kernel
theorem dX9_undone_9 : decode cX9_undone 9 = .ok (.invokevirtual 79, 3) := by decide +kernel
theorem dX9_undone_12 : decode cX9_undone 12 = .ok (.ifCond .eq 10, 3) := by decide +kernel
theorem dX9_undone_15 : decode cX9_undone 15 = .ok (.aload_n 0, 1) := by decide +kernel
theorem dX9_undone_16 : decode cX9_undone 16 = .ok (.invokevirtual 91, 3) := by decide +kernel
theorem dX9_undone_19 : decode cX9_undone 19 = .ok (.goto 4, 3) := by decide +kernel
theorem dX9_undone_22 : decode cX9_undone 22 = .ok (.iconst (-1), 1) := by decide +kernel
theorem dX9_undone_23 : decode cX9_undone 23 = .ok (.ireturn, 1) := by decide +kernel
theorem dX9_place_0 : decode cX9_place 0 = .ok (.iload_n 1, 1) := by decide +kernel
theorem dX9_place_1 : decode cX9_place 1 = .ok (.invokestatic 36, 3) := by decide +kernel
theorem dX9_place_4 : decode cX9_place 4 = .ok (.ifCond .eq 34, 3) := by decide +kernel
theorem dX9_place_7 : decode cX9_place 7 = .ok (.iload_n 3, 1) := by decide +kernel
theorem dX9_place_8 : decode cX9_place 8 = .ok (.iconst 0, 1) := by decide +kernel
theorem dX9_place_9 : decode cX9_place 9 = .ok (.iconst 2, 1) := by decide +kernel
theorem dX9_place_10 : decode cX9_place 10 = .ok (.invokestatic 32, 3) := by decide +kernel
theorem dX9_place_13 : decode cX9_place 13 = .ok (.ifCond .eq 25, 3) := by decide +kernel
theorem dX9_place_16 : decode cX9_place 16 = .ok (.aload_n 0, 1) := by decide +kernel
theorem dX9_place_17 : decode cX9_place 17 = .ok (.iload_n 1, 1) := by decide +kernel
theorem dX9_place_18 : decode cX9_place 18 = .ok (.invokevirtual 79, 3) := by decide +kernel
theorem dX9_place_21 : decode cX9_place 21 = .ok (.ifCond .eq 17, 3) := by decide +kernel
theorem dX9_place_24 : decode cX9_place 24 = .ok (.iload_n 2, 1) := by decide +kernel
theorem dX9_place_25 : decode cX9_place 25 = .ok (.iconst 0, 1) := by decide +kernel
theorem dX9_place_26 : decode cX9_place 26 = .ok (.aload_n 0, 1) := by decide +kernel
theorem dX9_place_27 : decode cX9_place 27 = .ok (.invokevirtual 91, 3) := by decide +kernel
theorem dX9_place_30 : decode cX9_place 30 = .ok (.iconst 1, 1) := by decide +kernel
theorem dX9_place_31 : decode cX9_place 31 = .ok (.isub, 1) := by decide +kernel
theorem dX9_place_32 : decode cX9_place 32 = .ok (.invokestatic 32, 3) := by decide +kernel
theorem dX9_place_35 : decode cX9_place 35 = .ok (.ifCond .ne 5, 3) := by decide +kernel
theorem dX9_place_38 : decode cX9_place 38 = .ok (.iconst (-1), 1) := by decide +kernel
theorem dX9_place_39 : decode cX9_place 39 = .ok (.ireturn, 1) := by decide +kernel
theorem dX9_place_40 : decode cX9_place 40 = .ok (.iconst 0, 1) := by decide +kernel
theorem dX9_place_41 : decode cX9_place 41 = .ok (.istore 4, 2) := by decide +kernel
theorem dX9_place_43 : decode cX9_place 43 = .ok (.iconst 0, 1) := by decide +kernel
theorem dX9_place_44 : decode cX9_place 44 = .ok (.istore 5, 2) := by decide +kernel
theorem dX9_place_46 : decode cX9_place 46 = .ok (.iconst 0, 1) := by decide +kernel
theorem dX9_place_47 : decode cX9_place 47 = .ok (.istore 6, 2) := by decide +kernel
theorem dX9_place_49 : decode cX9_place 49 = .ok (.iload 6, 2) := by decide +kernel
theorem dX9_place_51 : decode cX9_place 51 = .ok (.iload_n 2, 1) := by decide +kernel
theorem dX9_place_52 : decode cX9_place 52 = .ok (.if_icmp .gt 40, 3) := by decide +kernel
theorem dX9_place_55 : decode cX9_place 55 = .ok (.iload 4, 2) := by decide +kernel
theorem dX9_place_57 : decode cX9_place 57 = .ok (.aload_n 0, 1) := by decide +kernel
theorem dX9_place_58 : decode cX9_place 58 = .ok (.getfield 29, 3) := by decide +kernel
theorem dX9_place_61 : decode cX9_place 61 = .ok (.iload 6, 2) := by decide +kernel
theorem dX9_place_63 : decode cX9_place 63 = .ok (.iaload, 1) := by decide +kernel
theorem dX9_place_64 : decode cX9_place 64 = .ok (.iadd, 1) := by decide +kernel
theorem dX9_place_65 : decode cX9_place 65 = .ok (.istore 4, 2) := by decide +kernel
theorem dX9_place_67 : decode cX9_place 67 = .ok (.iload 5, 2) := by decide +kernel
theorem dX9_place_69 : decode cX9_place 69 = .ok (.iload 6, 2) := by decide +kernel
theorem dX9_place_71 : decode cX9_place 71 = .ok (.iload_n 2, 1) := by decide +kernel
theorem dX9_place_72 : decode cX9_place 72 = .ok (.invokestatic 87, 3) := by decide +kernel
theorem dX9_place_75 : decode cX9_place 75 = .ok (.aload_n 0, 1) := by decide +kernel
theorem dX9_place_76 : decode cX9_place 76 = .ok (.getfield 29, 3) := by decide +kernel
theorem dX9_place_79 : decode cX9_place 79 = .ok (.iload 6, 2) := by decide +kernel
theorem dX9_place_81 : decode cX9_place 81 = .ok (.iaload, 1) := by decide +kernel
theorem dX9_place_82 : decode cX9_place 82 = .ok (.imul, 1) := by decide +kernel
theorem dX9_place_83 : decode cX9_place 83 = .ok (.iadd, 1) := by decide +kernel
theorem dX9_place_84 : decode cX9_place 84 = .ok (.istore 5, 2) := by decide +kernel
theorem dX9_place_86 : decode cX9_place 86 = .ok (.iinc 6 1, 3) := by decide +kernel
theorem dX9_place_89 : decode cX9_place 89 = .ok (.goto (-40), 3) := by decide +kernel
theorem dX9_place_92 : decode cX9_place 92 = .ok (.iload_n 3, 1) := by decide +kernel
theorem dX9_place_93 : decode cX9_place 93 = .ok (.ifCond .ne 12, 3) := by decide +kernel
theorem dX9_place_96 : decode cX9_place 96 = .ok (.aload_n 0, 1) := by decide +kernel
theorem dX9_place_97 : decode cX9_place 97 = .ok (.getfield 29, 3) := by decide +kernel
theorem dX9_place_100 : decode cX9_place 100 = .ok (.iload_n 2, 1) := by decide +kernel
theorem dX9_place_101 : decode cX9_place 101 = .ok (.iaload, 1) := by decide +kernel
theorem dX9_place_102 : decode cX9_place 102 = .ok (.goto 20, 3) := by decide +kernel
theorem dX9_place_105 : decode cX9_place 105 = .ok (.iload_n 3, 1) := by decide +kernel
theorem dX9_place_106 : decode cX9_place 106 = .ok (.iconst 1, 1) := by decide +kernel
theorem dX9_place_107 : decode cX9_place 107 = .ok (.if_icmp .ne 8, 3) := by decide +kernel
theorem dX9_place_110 : decode cX9_place 110 = .ok (.iload 4, 2) := by decide +kernel
theorem dX9_place_112 : decode cX9_place 112 = .ok (.goto 10, 3) := by decide +kernel
theorem dX9_place_115 : decode cX9_place 115 = .ok (.iload 5, 2) := by decide +kernel
theorem dX9_place_117 : decode cX9_place 117 = .ok (.ldc 86, 2) := by decide +kernel
theorem dX9_place_119 : decode cX9_place 119 = .ok (.idiv, 1) := by decide +kernel
theorem dX9_place_120 : decode cX9_place 120 = .ok (.iconst 1, 1) := by decide +kernel
theorem dX9_place_121 : decode cX9_place 121 = .ok (.isub, 1) := by decide +kernel
theorem dX9_place_122 : decode cX9_place 122 = .ok (.ireturn, 1) := by decide +kernel
theorem dX9_isHour_0 : decode cX9_isHour 0 = .ok (.iload_n 0, 1) := by decide +kernel
theorem dX9_isHour_1 : decode cX9_isHour 1 = .ok (.iconst 0, 1) := by decide +kernel
theorem dX9_isHour_2 : decode cX9_isHour 2 = .ok (.bipush 23, 2) := by decide +kernel
theorem dX9_isHour_4 : decode cX9_isHour 4 = .ok (.invokestatic 32, 3) := by decide +kernel
theorem dX9_isHour_7 : decode cX9_isHour 7 = .ok (.ifCond .eq 17, 3) := by decide +kernel
theorem dX9_isHour_10 : decode cX9_isHour 10 = .ok (.iload_n 1, 1) := by decide +kernel
theorem dX9_isHour_11 : decode cX9_isHour 11 = .ok (.iconst 0, 1) := by decide +kernel
theorem dX9_isHour_12 : decode cX9_isHour 12 = .ok (.bipush 30, 2) := by decide +kernel
theorem dX9_isHour_14 : decode cX9_isHour 14 = .ok (.invokestatic 32, 3) := by decide +kernel
theorem dX9_isHour_17 : decode cX9_isHour 17 = .ok (.ifCond .eq 7, 3) := by decide +kernel
theorem dX9_isHour_20 : decode cX9_isHour 20 = .ok (.iconst 1, 1) := by decide +kernel
theorem dX9_isHour_21 : decode cX9_isHour 21 = .ok (.goto 4, 3) := by decide +kernel
theorem dX9_isHour_24 : decode cX9_isHour 24 = .ok (.iconst 0, 1) := by decide +kernel
theorem dX9_isHour_25 : decode cX9_isHour 25 = .ok (.ireturn, 1) := by decide +kernel
theorem dX9_cell_0 : decode cX9_cell 0 = .ok (.bipush 20, 2) := by decide +kernel
theorem dX9_cell_2 : decode cX9_cell 2 = .ok (.iconst 2, 1) := by decide +kernel
theorem dX9_cell_3 : decode cX9_cell 3 = .ok (.bipush 31, 2) := by decide +kernel
theorem dX9_cell_5 : decode cX9_cell 5 = .ok (.iload_n 0, 1) := by decide +kernel
theorem dX9_cell_6 : decode cX9_cell 6 = .ok (.imul, 1) := by decide +kernel
