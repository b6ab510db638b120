/-! decode rows, by program -/
theorem dX7_init_0 : decode prog_1_method_1_code 0 = .ok (.aload_n 0, 1) := by decide +kernel
theorem dX7_init_1 : decode prog_1_method_1_code 1 = .ok (.invokespecial 1, 3) := by decide +kernel
theorem dX7_init_4 : decode prog_1_method_1_code 4 = .ok (.aload_n 0, 1) := by decide +kernel
theorem dX7_init_5 : decode prog_1_method_1_code 5 = .ok (.sipush 400, 3) := by decide +kernel
theorem dX7_init_8 : decode prog_1_method_1_code 8 = .ok (.newarray .int, 2) := by decide +kernel
theorem dX7_init_10 : decode prog_1_method_1_code 10 = .ok (.putfield 9, 3) := by decide +kernel
theorem dX7_init_13 : decode prog_1_method_1_code 13 = .ok (.aload_n 0, 1) := by decide +kernel
theorem dX7_init_14 : decode prog_1_method_1_code 14 = .ok (.iconst 0, 1) := by decide +kernel
theorem dX7_init_15 : decode prog_1_method_1_code 15 = .ok (.putfield 13, 3) := by decide +kernel
theorem dX7_init_18 : decode prog_1_method_1_code 18 = .ok (.aload_n 0, 1) := by decide +kernel
theorem dX7_init_19 : decode prog_1_method_1_code 19 = .ok (.new 17, 3) := by decide +kernel
theorem dX7_init_22 : decode prog_1_method_1_code 22 = .ok (.dup, 1) := by decide +kernel
theorem dX7_init_23 : decode prog_1_method_1_code 23 = .ok (.invokespecial 19, 3) := by decide +kernel
theorem dX7_init_26 : decode prog_1_method_1_code 26 = .ok (.putfield 20, 3) := by decide +kernel
theorem dX7_init_29 : decode prog_1_method_1_code 29 = .ok (.aload_n 0, 1) := by decide +kernel
theorem dX7_init_30 : decode prog_1_method_1_code 30 = .ok (.new 24, 3) := by decide +kernel
theorem dX7_init_33 : decode prog_1_method_1_code 33 = .ok (.dup, 1) := by decide +kernel
theorem dX7_init_34 : decode prog_1_method_1_code 34 = .ok (.invokespecial 26, 3) := by decide +kernel
theorem dX7_init_37 : decode prog_1_method_1_code 37 = .ok (.putfield 27, 3) := by decide +kernel
theorem dX7_init_40 : decode prog_1_method_1_code 40 = .ok (.aload_n 0, 1) := by decide +kernel
theorem dX7_init_41 : decode prog_1_method_1_code 41 = .ok (.iconst (-1), 1) := by decide +kernel
theorem dX7_init_42 : decode prog_1_method_1_code 42 = .ok (.putfield 31, 3) := by decide +kernel
theorem dX7_init_45 : decode prog_1_method_1_code 45 = .ok (.aload_n 0, 1) := by decide +kernel
theorem dX7_init_46 : decode prog_1_method_1_code 46 = .ok (.new 34, 3) := by decide +kernel
theorem dX7_init_49 : decode prog_1_method_1_code 49 = .ok (.dup, 1) := by decide +kernel
theorem dX7_init_50 : decode prog_1_method_1_code 50 = .ok (.invokespecial 36, 3) := by decide +kernel
theorem dX7_init_53 : decode prog_1_method_1_code 53 = .ok (.putfield 37, 3) := by decide +kernel
theorem dX7_init_56 : decode prog_1_method_1_code 56 = .ok (.aload_n 0, 1) := by decide +kernel
theorem dX7_init_57 : decode prog_1_method_1_code 57 = .ok (.new 34, 3) := by decide +kernel
theorem dX7_init_60 : decode prog_1_method_1_code 60 = .ok (.dup, 1) := by decide +kernel
theorem dX7_init_61 : decode prog_1_method_1_code 61 = .ok (.invokespecial 36, 3) := by decide +kernel
theorem dX7_init_64 : decode prog_1_method_1_code 64 = .ok (.putfield 41, 3) := by decide +kernel
theorem dX7_init_67 : decode prog_1_method_1_code 67 = .ok (.aload_n 0, 1) := by decide +kernel
theorem dX7_init_68 : decode prog_1_method_1_code 68 = .ok (.new 44, 3) := by decide +kernel
theorem dX7_init_71 : decode prog_1_method_1_code 71 = .ok (.dup, 1) := by decide +kernel
theorem dX7_init_72 : decode prog_1_method_1_code 72 = .ok (.invokespecial 46, 3) := by decide +kernel
theorem dX7_init_75 : decode prog_1_method_1_code 75 = .ok (.putfield 47, 3) := by decide +kernel
theorem dX7_init_78 : decode prog_1_method_1_code 78 = .ok (.aload_n 0, 1) := by decide +kernel
theorem dX7_init_79 : decode prog_1_method_1_code 79 = .ok (.new 44, 3) := by decide +kernel
theorem dX7_init_82 : decode prog_1_method_1_code 82 = .ok (.dup, 1) := by decide +kernel
theorem dX7_init_83 : decode prog_1_method_1_code 83 = .ok (.invokespecial 46, 3) := by decide +kernel
theorem dX7_init_86 : decode prog_1_method_1_code 86 = .ok (.putfield 51, 3) := by decide +kernel
theorem dX7_init_89 : decode prog_1_method_1_code 89 = .ok (.aload_n 0, 1) := by decide +kernel
theorem dX7_init_90 : decode prog_1_method_1_code 90 = .ok (.iconst 0, 1) := by decide +kernel
theorem dX7_init_91 : decode prog_1_method_1_code 91 = .ok (.putfield 54, 3) := by decide +kernel
theorem dX7_init_94 : decode prog_1_method_1_code 94 = .ok (.aload_n 0, 1) := by decide +kernel
theorem dX7_init_95 : decode prog_1_method_1_code 95 = .ok (.new 34, 3) := by decide +kernel
theorem dX7_init_98 : decode prog_1_method_1_code 98 = .ok (.dup, 1) := by decide +kernel
theorem dX7_init_99 : decode prog_1_method_1_code 99 = .ok (.invokespecial 36, 3) := by decide +kernel
theorem dX7_init_102 : decode prog_1_method_1_code 102 = .ok (.putfield 58, 3) := by decide +kernel
theorem dX7_init_105 : decode prog_1_method_1_code 105 = .ok (.aload_n 0, 1) := by decide +kernel
theorem dX7_init_106 : decode prog_1_method_1_code 106 = .ok (.new 44, 3) := by decide +kernel
theorem dX7_init_109 : decode prog_1_method_1_code 109 = .ok (.dup, 1) := by decide +kernel
theorem dX7_init_110 : decode prog_1_method_1_code 110 = .ok (.invokespecial 46, 3) := by decide +kernel
theorem dX7_init_113 : decode prog_1_method_1_code 113 = .ok (.putfield 61, 3) := by decide +kernel
theorem dX7_init_116 : decode prog_1_method_1_code 116 = .ok (.aload_n 0, 1) := by decide +kernel
theorem dX7_init_117 : decode prog_1_method_1_code 117 = .ok (.bipush 12, 2) := by decide +kernel
theorem dX7_init_119 : decode prog_1_method_1_code 119 = .ok (.anewarray 34, 3) := by decide +kernel
theorem dX7_init_122 : decode prog_1_method_1_code 122 = .ok (.putfield 64, 3) := by decide +kernel
theorem dX7_init_125 : decode prog_1_method_1_code 125 = .ok (.aload_n 0, 1) := by decide +kernel
theorem dX7_init_126 : decode prog_1_method_1_code 126 = .ok (.iconst 0, 1) := by decide +kernel
theorem dX7_init_127 : decode prog_1_method_1_code 127 = .ok (.putfield 68, 3) := by decide +kernel
theorem dX7_init_130 : decode prog_1_method_1_code 130 = .ok (.aload_n 0, 1) := by decide +kernel
theorem dX7_init_131 : decode prog_1_method_1_code 131 = .ok (.iconst 0, 1) := by decide +kernel
theorem dX7_init_132 : decode prog_1_method_1_code 132 = .ok (.putfield 71, 3) := by decide +kernel
theorem dX7_init_135 : decode prog_1_method_1_code 135 = .ok (.aload_n 0, 1) := by decide +kernel
theorem dX7_init_136 : decode prog_1_method_1_code 136 = .ok (.bipush 12, 2) := by decide +kernel
theorem dX7_init_138 : decode prog_1_method_1_code 138 = .ok (.newarray .int, 2) := by decide +kernel
theorem dX7_init_140 : decode prog_1_method_1_code 140 = .ok (.putfield 74, 3) := by decide +kernel
theorem dX7_init_143 : decode prog_1_method_1_code 143 = .ok (.aload_n 0, 1) := by decide +kernel
theorem dX7_init_144 : decode prog_1_method_1_code 144 = .ok (.new 77, 3) := by decide +kernel
theorem dX7_init_147 : decode prog_1_method_1_code 147 = .ok (.dup, 1) := by decide +kernel
theorem dX7_init_148 : decode prog_1_method_1_code 148 = .ok (.invokespecial 79, 3) := by decide +kernel
theorem dX7_init_151 : decode prog_1_method_1_code 151 = .ok (.putfield 80, 3) := by decide +kernel
theorem dX7_init_154 : decode prog_1_method_1_code 154 = .ok (.aload_n 0, 1) := by decide +kernel
theorem dX7_init_155 : decode prog_1_method_1_code 155 = .ok (.new 77, 3) := by decide +kernel
theorem dX7_init_158 : decode prog_1_method_1_code 158 = .ok (.dup, 1) := by decide +kernel
theorem dX7_init_159 : decode prog_1_method_1_code 159 = .ok (.invokespecial 79, 3) := by decide +kernel
theorem dX7_init_162 : decode prog_1_method_1_code 162 = .ok (.putfield 84, 3) := by decide +kernel
theorem dX7_init_165 : decode prog_1_method_1_code 165 = .ok (.aload_n 0, 1) := by decide +kernel
theorem dX7_init_166 : decode prog_1_method_1_code 166 = .ok (.bipush 6, 2) := by decide +kernel
theorem dX7_init_168 : decode prog_1_method_1_code 168 = .ok (.newarray .int, 2) := by decide +kernel
theorem dX7_init_170 : decode prog_1_method_1_code 170 = .ok (.putfield 87, 3) := by decide +kernel
theorem dX7_init_173 : decode prog_1_method_1_code 173 = .ok (.iconst 0, 1) := by decide +kernel
theorem dX7_init_174 : decode prog_1_method_1_code 174 = .ok (.istore_n 1, 1) := by decide +kernel
theorem dX7_init_175 : decode prog_1_method_1_code 175 = .ok (.iload_n 1, 1) := by decide +kernel
theorem dX7_init_176 : decode prog_1_method_1_code 176 = .ok (.aload_n 0, 1) := by decide +kernel
theorem dX7_init_177 : decode prog_1_method_1_code 177 = .ok (.getfield 64, 3) := by decide +kernel
theorem dX7_init_180 : decode prog_1_method_1_code 180 = .ok (.arraylength, 1) := by decide +kernel
theorem dX7_init_181 : decode prog_1_method_1_code 181 = .ok (.if_icmp .ge 22, 3) := by decide +kernel
theorem dX7_init_184 : decode prog_1_method_1_code 184 = .ok (.aload_n 0, 1) := by decide +kernel
theorem dX7_init_185 : decode prog_1_method_1_code 185 = .ok (.getfield 64, 3) := by decide +kernel
theorem dX7_init_188 : decode prog_1_method_1_code 188 = .ok (.iload_n 1, 1) := by decide +kernel
theorem dX7_init_189 : decode prog_1_method_1_code 189 = .ok (.new 34, 3) := by decide +kernel
theorem dX7_init_192 : decode prog_1_method_1_code 192 = .ok (.dup, 1) := by decide +kernel
theorem dX7_init_193 : decode prog_1_method_1_code 193 = .ok (.invokespecial 36, 3) := by decide +kernel
theorem dX7_init_196 : decode prog_1_method_1_code 196 = .ok (.aastore, 1) := by decide +kernel
theorem dX7_init_197 : decode prog_1_method_1_code 197 = .ok (.iinc 1 1, 3) := by decide +kernel
theorem dX7_init_200 : decode prog_1_method_1_code 200 = .ok (.goto (-25), 3) := by decide +kernel
theorem dX7_init_203 : decode prog_1_method_1_code 203 = .ok (.return_, 1) := by decide +kernel
theorem dX7_feed_0 : decode prog_1_method_2_code 0 = .ok (.aload_n 0, 1) := by decide +kernel
theorem dX7_feed_1 : decode prog_1_method_2_code 1 = .ok (.getfield 13, 3) := by decide +kernel
theorem dX7_feed_4 : decode prog_1_method_2_code 4 = .ok (.sipush 380, 3) := by decide +kernel
theorem dX7_feed_7 : decode prog_1_method_2_code 7 = .ok (.if_icmp .le 5, 3) := by decide +kernel
theorem dX7_feed_10 : decode prog_1_method_2_code 10 = .ok (.iconst (-1), 1) := by decide +kernel
theorem dX7_feed_11 : decode prog_1_method_2_code 11 = .ok (.ireturn, 1) := by decide +kernel
theorem dX7_feed_12 : decode prog_1_method_2_code 12 = .ok (.aload_n 0, 1) := by decide +kernel
theorem dX7_feed_13 : decode prog_1_method_2_code 13 = .ok (.iload_n 1, 1) := by decide +kernel
theorem dX7_feed_14 : decode prog_1_method_2_code 14 = .ok (.invokevirtual 90, 3) := by decide +kernel
theorem dX7_feed_17 : decode prog_1_method_2_code 17 = .ok (.aload_n 0, 1) := by decide +kernel
theorem dX7_feed_18 : decode prog_1_method_2_code 18 = .ok (.iload_n 2, 1) := by decide +kernel
theorem dX7_feed_19 : decode prog_1_method_2_code 19 = .ok (.invokevirtual 90, 3) := by decide +kernel
theorem dX7_feed_22 : decode prog_1_method_2_code 22 = .ok (.aload_n 0, 1) := by decide +kernel
theorem dX7_feed_23 : decode prog_1_method_2_code 23 = .ok (.iload_n 3, 1) := by decide +kernel
theorem dX7_feed_24 : decode prog_1_method_2_code 24 = .ok (.invokevirtual 90, 3) := by decide +kernel
theorem dX7_feed_27 : decode prog_1_method_2_code 27 = .ok (.aload_n 0, 1) := by decide +kernel
theorem dX7_feed_28 : decode prog_1_method_2_code 28 = .ok (.iload 4, 2) := by decide +kernel
theorem dX7_feed_30 : decode prog_1_method_2_code 30 = .ok (.invokevirtual 90, 3) := by decide +kernel
theorem dX7_feed_33 : decode prog_1_method_2_code 33 = .ok (.aload_n 0, 1) := by decide +kernel
theorem dX7_feed_34 : decode prog_1_method_2_code 34 = .ok (.iload 5, 2) := by decide +kernel
theorem dX7_feed_36 : decode prog_1_method_2_code 36 = .ok (.invokevirtual 90, 3) := by decide +kernel
theorem dX7_feed_39 : decode prog_1_method_2_code 39 = .ok (.aload_n 0, 1) := by decide +kernel
theorem dX7_feed_40 : decode prog_1_method_2_code 40 = .ok (.getfield 13, 3) := by decide +kernel
theorem dX7_feed_43 : decode prog_1_method_2_code 43 = .ok (.ireturn, 1) := by decide +kernel
theorem dX7_tapeNumber_0 : decode prog_1_method_65_code 0 = .ok (.bipush 24, 2) := by decide +kernel
theorem dX7_tapeNumber_2 : decode prog_1_method_65_code 2 = .ok (.istore_n 2, 1) := by decide +kernel
theorem dX7_tapeNumber_3 : decode prog_1_method_65_code 3 = .ok (.iload_n 2, 1) := by decide +kernel
theorem dX7_tapeNumber_4 : decode prog_1_method_65_code 4 = .ok (.ifCond .lt 37, 3) := by decide +kernel
theorem dX7_tapeNumber_7 : decode prog_1_method_65_code 7 = .ok (.aload_n 0, 1) := by decide +kernel
theorem dX7_tapeNumber_8 : decode prog_1_method_65_code 8 = .ok (.getfield 9, 3) := by decide +kernel
theorem dX7_tapeNumber_11 : decode prog_1_method_65_code 11 = .ok (.aload_n 0, 1) := by decide +kernel
theorem dX7_tapeNumber_12 : decode prog_1_method_65_code 12 = .ok (.getfield 13, 3) := by decide +kernel
theorem dX7_tapeNumber_15 : decode prog_1_method_65_code 15 = .ok (.iload_n 1, 1) := by decide +kernel
theorem dX7_tapeNumber_16 : decode prog_1_method_65_code 16 = .ok (.iload_n 2, 1) := by decide +kernel
theorem dX7_tapeNumber_17 : decode prog_1_method_65_code 17 = .ok (.iushr, 1) := by decide +kernel
theorem dX7_tapeNumber_18 : decode prog_1_method_65_code 18 = .ok (.sipush 255, 3) := by decide +kernel
theorem dX7_tapeNumber_21 : decode prog_1_method_65_code 21 = .ok (.iand, 1) := by decide +kernel
theorem dX7_tapeNumber_22 : decode prog_1_method_65_code 22 = .ok (.invokestatic 211, 3) := by decide +kernel
theorem dX7_tapeNumber_25 : decode prog_1_method_65_code 25 = .ok (.aload_n 0, 1) := by decide +kernel
theorem dX7_tapeNumber_26 : decode prog_1_method_65_code 26 = .ok (.dup, 1) := by decide +kernel
theorem dX7_tapeNumber_27 : decode prog_1_method_65_code 27 = .ok (.getfield 13, 3) := by decide +kernel
theorem dX7_tapeNumber_30 : decode prog_1_method_65_code 30 = .ok (.iconst 1, 1) := by decide +kernel
theorem dX7_tapeNumber_31 : decode prog_1_method_65_code 31 = .ok (.iadd, 1) := by decide +kernel
theorem dX7_tapeNumber_32 : decode prog_1_method_65_code 32 = .ok (.putfield 13, 3) := by decide +kernel
theorem dX7_tapeNumber_35 : decode prog_1_method_65_code 35 = .ok (.iinc 2 (-8), 3) := by decide +kernel
theorem dX7_tapeNumber_38 : decode prog_1_method_65_code 38 = .ok (.goto (-35), 3) := by decide +kernel
theorem dX7_tapeNumber_41 : decode prog_1_method_65_code 41 = .ok (.return_, 1) := by decide +kernel
theorem dX7_put_0 : decode prog_1_method_57_code 0 = .ok (.aload_n 0, 1) := by decide +kernel
theorem dX7_put_1 : decode prog_1_method_57_code 1 = .ok (.ifnull 17, 3) := by decide +kernel
theorem dX7_put_4 : decode prog_1_method_57_code 4 = .ok (.iload_n 1, 1) := by decide +kernel
theorem dX7_put_5 : decode prog_1_method_57_code 5 = .ok (.ifCond .lt 13, 3) := by decide +kernel
theorem dX7_put_8 : decode prog_1_method_57_code 8 = .ok (.iload_n 1, 1) := by decide +kernel
theorem dX7_put_9 : decode prog_1_method_57_code 9 = .ok (.aload_n 0, 1) := by decide +kernel
theorem dX7_put_10 : decode prog_1_method_57_code 10 = .ok (.arraylength, 1) := by decide +kernel
theorem dX7_put_11 : decode prog_1_method_57_code 11 = .ok (.if_icmp .ge 7, 3) := by decide +kernel
theorem dX7_put_14 : decode prog_1_method_57_code 14 = .ok (.aload_n 0, 1) := by decide +kernel
theorem dX7_put_15 : decode prog_1_method_57_code 15 = .ok (.iload_n 1, 1) := by decide +kernel
theorem dX7_put_16 : decode prog_1_method_57_code 16 = .ok (.iload_n 2, 1) := by decide +kernel
theorem dX7_put_17 : decode prog_1_method_57_code 17 = .ok (.iastore, 1) := by decide +kernel
theorem dX7_put_18 : decode prog_1_method_57_code 18 = .ok (.return_, 1) := by decide +kernel
theorem dX7_end_0 : decode prog_1_method_3_code 0 = .ok (.iload_n 1, 1) := by decide +kernel
theorem dX7_end_1 : decode prog_1_method_3_code 1 = .ok (.ifCond .lt 11, 3) := by decide +kernel
theorem dX7_end_4 : decode prog_1_method_3_code 4 = .ok (.iload_n 1, 1) := by decide +kernel
theorem dX7_end_5 : decode prog_1_method_3_code 5 = .ok (.aload_n 0, 1) := by decide +kernel
theorem dX7_end_6 : decode prog_1_method_3_code 6 = .ok (.getfield 13, 3) := by decide +kernel
theorem dX7_end_9 : decode prog_1_method_3_code 9 = .ok (.if_icmp .le 5, 3) := by decide +kernel
theorem dX7_end_12 : decode prog_1_method_3_code 12 = .ok (.iconst 0, 1) := by decide +kernel
theorem dX7_end_13 : decode prog_1_method_3_code 13 = .ok (.ireturn, 1) := by decide +kernel
theorem dX7_end_14 : decode prog_1_method_3_code 14 = .ok (.aload_n 0, 1) := by decide +kernel
theorem dX7_end_15 : decode prog_1_method_3_code 15 = .ok (.iload_n 1, 1) := by decide +kernel
theorem dX7_end_16 : decode prog_1_method_3_code 16 = .ok (.putfield 13, 3) := by decide +kernel
theorem dX7_end_19 : decode prog_1_method_3_code 19 = .ok (.iconst 1, 1) := by decide +kernel
theorem dX7_end_20 : decode prog_1_method_3_code 20 = .ok (.ireturn, 1) := by decide +kernel
theorem dX7_fault_0 : decode prog_1_method_6_code 0 = .ok (.aload_n 0, 1) := by decide +kernel
theorem dX7_fault_1 : decode prog_1_method_6_code 1 = .ok (.getfield 31, 3) := by decide +kernel
theorem dX7_fault_4 : decode prog_1_method_6_code 4 = .ok (.ireturn, 1) := by decide +kernel
theorem dX7_take_0 : decode prog_1_method_16_code 0 = .ok (.aload_n 0, 1) := by decide +kernel
theorem dX7_take_1 : decode prog_1_method_16_code 1 = .ok (.invokevirtual 208, 3) := by decide +kernel
theorem dX7_take_4 : decode prog_1_method_16_code 4 = .ok (.aload_n 0, 1) := by decide +kernel
theorem dX7_take_5 : decode prog_1_method_16_code 5 = .ok (.getfield 37, 3) := by decide +kernel
theorem dX7_take_8 : decode prog_1_method_16_code 8 = .ok (.invokevirtual 224, 3) := by decide +kernel
theorem dX7_take_11 : decode prog_1_method_16_code 11 = .ok (.invokestatic 227, 3) := by decide +kernel
theorem dX7_take_14 : decode prog_1_method_16_code 14 = .ok (.istore_n 1, 1) := by decide +kernel
theorem dX7_take_15 : decode prog_1_method_16_code 15 = .ok (.aload_n 0, 1) := by decide +kernel
theorem dX7_take_16 : decode prog_1_method_16_code 16 = .ok (.getfield 37, 3) := by decide +kernel
theorem dX7_take_19 : decode prog_1_method_16_code 19 = .ok (.invokevirtual 232, 3) := by decide +kernel
theorem dX7_take_22 : decode prog_1_method_16_code 22 = .ok (.iload_n 1, 1) := by decide +kernel
theorem dX7_take_23 : decode prog_1_method_16_code 23 = .ok (.ireturn, 1) := by decide +kernel
theorem dX7_remember_0 : decode prog_1_method_67_code 0 = .ok (.aload_n 0, 1) := by decide +kernel
theorem dX7_remember_1 : decode prog_1_method_67_code 1 = .ok (.aload_n 0, 1) := by decide +kernel
theorem dX7_remember_2 : decode prog_1_method_67_code 2 = .ok (.getfield 68, 3) := by decide +kernel
theorem dX7_remember_5 : decode prog_1_method_67_code 5 = .ok (.iconst 1, 1) := by decide +kernel
theorem dX7_remember_6 : decode prog_1_method_67_code 6 = .ok (.iadd, 1) := by decide +kernel
theorem dX7_remember_7 : decode prog_1_method_67_code 7 = .ok (.bipush 12, 2) := by decide +kernel
theorem dX7_remember_9 : decode prog_1_method_67_code 9 = .ok (.irem, 1) := by decide +kernel
theorem dX7_remember_10 : decode prog_1_method_67_code 10 = .ok (.putfield 68, 3) := by decide +kernel
theorem dX7_remember_13 : decode prog_1_method_67_code 13 = .ok (.aload_n 0, 1) := by decide +kernel
theorem dX7_remember_14 : decode prog_1_method_67_code 14 = .ok (.getfield 68, 3) := by decide +kernel
theorem dX7_remember_17 : decode prog_1_method_67_code 17 = .ok (.ifCond .lt 37, 3) := by decide +kernel
theorem dX7_remember_20 : decode prog_1_method_67_code 20 = .ok (.aload_n 0, 1) := by decide +kernel
theorem dX7_remember_21 : decode prog_1_method_67_code 21 = .ok (.getfield 68, 3) := by decide +kernel
theorem dX7_remember_24 : decode prog_1_method_67_code 24 = .ok (.aload_n 0, 1) := by decide +kernel
theorem dX7_remember_25 : decode prog_1_method_67_code 25 = .ok (.getfield 64, 3) := by decide +kernel
theorem dX7_remember_28 : decode prog_1_method_67_code 28 = .ok (.arraylength, 1) := by decide +kernel
theorem dX7_remember_29 : decode prog_1_method_67_code 29 = .ok (.if_icmp .ge 25, 3) := by decide +kernel
theorem dX7_remember_32 : decode prog_1_method_67_code 32 = .ok (.aload_n 0, 1) := by decide +kernel
theorem dX7_remember_33 : decode prog_1_method_67_code 33 = .ok (.getfield 64, 3) := by decide +kernel
theorem dX7_remember_36 : decode prog_1_method_67_code 36 = .ok (.aload_n 0, 1) := by decide +kernel
theorem dX7_remember_37 : decode prog_1_method_67_code 37 = .ok (.getfield 68, 3) := by decide +kernel
theorem dX7_remember_40 : decode prog_1_method_67_code 40 = .ok (.aaload, 1) := by decide +kernel
theorem dX7_remember_41 : decode prog_1_method_67_code 41 = .ok (.astore_n 1, 1) := by decide +kernel
theorem dX7_remember_42 : decode prog_1_method_67_code 42 = .ok (.aload_n 1, 1) := by decide +kernel
theorem dX7_remember_43 : decode prog_1_method_67_code 43 = .ok (.ifnull 11, 3) := by decide +kernel
theorem dX7_remember_46 : decode prog_1_method_67_code 46 = .ok (.aload_n 1, 1) := by decide +kernel
theorem dX7_remember_47 : decode prog_1_method_67_code 47 = .ok (.aload_n 0, 1) := by decide +kernel
theorem dX7_remember_48 : decode prog_1_method_67_code 48 = .ok (.getfield 37, 3) := by decide +kernel
theorem dX7_remember_51 : decode prog_1_method_67_code 51 = .ok (.invokevirtual 94, 3) := by decide +kernel
theorem dX7_remember_54 : decode prog_1_method_67_code 54 = .ok (.aload_n 0, 1) := by decide +kernel
theorem dX7_remember_55 : decode prog_1_method_67_code 55 = .ok (.bipush 12, 2) := by decide +kernel
theorem dX7_remember_57 : decode prog_1_method_67_code 57 = .ok (.aload_n 0, 1) := by decide +kernel
theorem dX7_remember_58 : decode prog_1_method_67_code 58 = .ok (.getfield 71, 3) := by decide +kernel
theorem dX7_remember_61 : decode prog_1_method_67_code 61 = .ok (.iconst 1, 1) := by decide +kernel
theorem dX7_remember_62 : decode prog_1_method_67_code 62 = .ok (.iadd, 1) := by decide +kernel
theorem dX7_remember_63 : decode prog_1_method_67_code 63 = .ok (.invokestatic 332, 3) := by decide +kernel
theorem dX7_remember_66 : decode prog_1_method_67_code 66 = .ok (.putfield 71, 3) := by decide +kernel
theorem dX7_remember_69 : decode prog_1_method_67_code 69 = .ok (.return_, 1) := by decide +kernel
theorem dX7_copyRow_0 : decode prog_1_method_58_code 0 = .ok (.aload_n 0, 1) := by decide +kernel
theorem dX7_copyRow_1 : decode prog_1_method_58_code 1 = .ok (.iconst 0, 1) := by decide +kernel
theorem dX7_copyRow_2 : decode prog_1_method_58_code 2 = .ok (.aload_n 1, 1) := by decide +kernel
theorem dX7_copyRow_3 : decode prog_1_method_58_code 3 = .ok (.iconst 0, 1) := by decide +kernel
theorem dX7_copyRow_4 : decode prog_1_method_58_code 4 = .ok (.aload_n 0, 1) := by decide +kernel
theorem dX7_copyRow_5 : decode prog_1_method_58_code 5 = .ok (.arraylength, 1) := by decide +kernel
theorem dX7_copyRow_6 : decode prog_1_method_58_code 6 = .ok (.aload_n 1, 1) := by decide +kernel
theorem dX7_copyRow_7 : decode prog_1_method_58_code 7 = .ok (.arraylength, 1) := by decide +kernel
theorem dX7_copyRow_8 : decode prog_1_method_58_code 8 = .ok (.invokestatic 332, 3) := by decide +kernel
theorem dX7_copyRow_11 : decode prog_1_method_58_code 11 = .ok (.invokestatic 359, 3) := by decide +kernel
theorem dX7_copyRow_14 : decode prog_1_method_58_code 14 = .ok (.return_, 1) := by decide +kernel
theorem dX7_at_0 : decode prog_1_method_56_code 0 = .ok (.aload_n 0, 1) := by decide +kernel
theorem dX7_at_1 : decode prog_1_method_56_code 1 = .ok (.ifnull 19, 3) := by decide +kernel
theorem dX7_at_4 : decode prog_1_method_56_code 4 = .ok (.iload_n 1, 1) := by decide +kernel
theorem dX7_at_5 : decode prog_1_method_56_code 5 = .ok (.ifCond .lt 15, 3) := by decide +kernel
theorem dX7_at_8 : decode prog_1_method_56_code 8 = .ok (.iload_n 1, 1) := by decide +kernel
theorem dX7_at_9 : decode prog_1_method_56_code 9 = .ok (.aload_n 0, 1) := by decide +kernel
theorem dX7_at_10 : decode prog_1_method_56_code 10 = .ok (.arraylength, 1) := by decide +kernel
theorem dX7_at_11 : decode prog_1_method_56_code 11 = .ok (.if_icmp .ge 9, 3) := by decide +kernel
theorem dX7_at_14 : decode prog_1_method_56_code 14 = .ok (.aload_n 0, 1) := by decide +kernel
theorem dX7_at_15 : decode prog_1_method_56_code 15 = .ok (.iload_n 1, 1) := by decide +kernel
theorem dX7_at_16 : decode prog_1_method_56_code 16 = .ok (.iaload, 1) := by decide +kernel
theorem dX7_at_17 : decode prog_1_method_56_code 17 = .ok (.goto 4, 3) := by decide +kernel
theorem dX7_at_20 : decode prog_1_method_56_code 20 = .ok (.iconst 0, 1) := by decide +kernel
theorem dX7_at_21 : decode prog_1_method_56_code 21 = .ok (.ireturn, 1) := by decide +kernel
theorem dX7_total_0 : decode prog_1_method_59_code 0 = .ok (.iconst 0, 1) := by decide +kernel
theorem dX7_total_1 : decode prog_1_method_59_code 1 = .ok (.istore_n 2, 1) := by decide +kernel
theorem dX7_total_2 : decode prog_1_method_59_code 2 = .ok (.iconst 0, 1) := by decide +kernel
theorem dX7_total_3 : decode prog_1_method_59_code 3 = .ok (.istore_n 3, 1) := by decide +kernel
theorem dX7_total_4 : decode prog_1_method_59_code 4 = .ok (.iload_n 3, 1) := by decide +kernel
theorem dX7_total_5 : decode prog_1_method_59_code 5 = .ok (.iload_n 1, 1) := by decide +kernel
theorem dX7_total_6 : decode prog_1_method_59_code 6 = .ok (.if_icmp .ge 17, 3) := by decide +kernel
theorem dX7_total_9 : decode prog_1_method_59_code 9 = .ok (.iload_n 2, 1) := by decide +kernel
theorem dX7_total_10 : decode prog_1_method_59_code 10 = .ok (.aload_n 0, 1) := by decide +kernel
theorem dX7_total_11 : decode prog_1_method_59_code 11 = .ok (.iload_n 3, 1) := by decide +kernel
theorem dX7_total_12 : decode prog_1_method_59_code 12 = .ok (.invokestatic 137, 3) := by decide +kernel
theorem dX7_total_15 : decode prog_1_method_59_code 15 = .ok (.iadd, 1) := by decide +kernel
theorem dX7_total_16 : decode prog_1_method_59_code 16 = .ok (.istore_n 2, 1) := by decide +kernel
theorem dX7_total_17 : decode prog_1_method_59_code 17 = .ok (.iinc 3 1, 3) := by decide +kernel
theorem dX7_total_20 : decode prog_1_method_59_code 20 = .ok (.goto (-16), 3) := by decide +kernel
theorem dX7_total_23 : decode prog_1_method_59_code 23 = .ok (.iload_n 2, 1) := by decide +kernel
theorem dX7_total_24 : decode prog_1_method_59_code 24 = .ok (.ireturn, 1) := by decide +kernel
theorem dX7_missing_0 : decode prog_1_method_19_code 0 = .ok (.aload_n 0, 1) := by decide +kernel
theorem dX7_missing_1 : decode prog_1_method_19_code 1 = .ok (.getfield 37, 3) := by decide +kernel
theorem dX7_missing_4 : decode prog_1_method_19_code 4 = .ok (.invokevirtual 224, 3) := by decide +kernel
theorem dX7_missing_7 : decode prog_1_method_19_code 7 = .ok (.ireturn, 1) := by decide +kernel
theorem dX7_worse_0 : decode prog_1_method_20_code 0 = .ok (.iconst 0, 1) := by decide +kernel
theorem dX7_worse_1 : decode prog_1_method_20_code 1 = .ok (.istore_n 1, 1) := by decide +kernel
theorem dX7_worse_2 : decode prog_1_method_20_code 2 = .ok (.iconst 0, 1) := by decide +kernel
theorem dX7_worse_3 : decode prog_1_method_20_code 3 = .ok (.istore_n 2, 1) := by decide +kernel
theorem dX7_worse_4 : decode prog_1_method_20_code 4 = .ok (.iload_n 2, 1) := by decide +kernel
theorem dX7_worse_5 : decode prog_1_method_20_code 5 = .ok (.aload_n 0, 1) := by decide +kernel
theorem dX7_worse_6 : decode prog_1_method_20_code 6 = .ok (.getfield 37, 3) := by decide +kernel
theorem dX7_worse_9 : decode prog_1_method_20_code 9 = .ok (.getfield 242, 3) := by decide +kernel
theorem dX7_worse_12 : decode prog_1_method_20_code 12 = .ok (.if_icmp .ge 26, 3) := by decide +kernel
theorem dX7_worse_15 : decode prog_1_method_20_code 15 = .ok (.aload_n 0, 1) := by decide +kernel
theorem dX7_worse_16 : decode prog_1_method_20_code 16 = .ok (.getfield 37, 3) := by decide +kernel
theorem dX7_worse_19 : decode prog_1_method_20_code 19 = .ok (.iload_n 2, 1) := by decide +kernel
theorem dX7_worse_20 : decode prog_1_method_20_code 20 = .ok (.invokevirtual 163, 3) := by decide +kernel
theorem dX7_worse_23 : decode prog_1_method_20_code 23 = .ok (.ifCond .le 9, 3) := by decide +kernel
theorem dX7_worse_26 : decode prog_1_method_20_code 26 = .ok (.iload_n 1, 1) := by decide +kernel
theorem dX7_worse_27 : decode prog_1_method_20_code 27 = .ok (.iconst 1, 1) := by decide +kernel
theorem dX7_worse_28 : decode prog_1_method_20_code 28 = .ok (.iload_n 2, 1) := by decide +kernel
theorem dX7_worse_29 : decode prog_1_method_20_code 29 = .ok (.ishl, 1) := by decide +kernel
theorem dX7_worse_30 : decode prog_1_method_20_code 30 = .ok (.ior, 1) := by decide +kernel
theorem dX7_worse_31 : decode prog_1_method_20_code 31 = .ok (.istore_n 1, 1) := by decide +kernel
theorem dX7_worse_32 : decode prog_1_method_20_code 32 = .ok (.iinc 2 1, 3) := by decide +kernel
theorem dX7_worse_35 : decode prog_1_method_20_code 35 = .ok (.goto (-31), 3) := by decide +kernel
theorem dX7_worse_38 : decode prog_1_method_20_code 38 = .ok (.iload_n 1, 1) := by decide +kernel
theorem dX7_worse_39 : decode prog_1_method_20_code 39 = .ok (.ireturn, 1) := by decide +kernel
theorem dX7_mislaid_0 : decode prog_1_method_21_code 0 = .ok (.iconst 0, 1) := by decide +kernel
theorem dX7_mislaid_1 : decode prog_1_method_21_code 1 = .ok (.istore_n 1, 1) := by decide +kernel
theorem dX7_mislaid_2 : decode prog_1_method_21_code 2 = .ok (.iconst 0, 1) := by decide +kernel
theorem dX7_mislaid_3 : decode prog_1_method_21_code 3 = .ok (.istore_n 2, 1) := by decide +kernel
theorem dX7_mislaid_4 : decode prog_1_method_21_code 4 = .ok (.iload_n 2, 1) := by decide +kernel
theorem dX7_mislaid_5 : decode prog_1_method_21_code 5 = .ok (.aload_n 0, 1) := by decide +kernel
theorem dX7_mislaid_6 : decode prog_1_method_21_code 6 = .ok (.getfield 37, 3) := by decide +kernel
theorem dX7_mislaid_9 : decode prog_1_method_21_code 9 = .ok (.getfield 242, 3) := by decide +kernel
theorem dX7_mislaid_12 : decode prog_1_method_21_code 12 = .ok (.if_icmp .ge 40, 3) := by decide +kernel
theorem dX7_mislaid_15 : decode prog_1_method_21_code 15 = .ok (.aload_n 0, 1) := by decide +kernel
theorem dX7_mislaid_16 : decode prog_1_method_21_code 16 = .ok (.getfield 37, 3) := by decide +kernel
theorem dX7_mislaid_19 : decode prog_1_method_21_code 19 = .ok (.getfield 134, 3) := by decide +kernel
theorem dX7_mislaid_22 : decode prog_1_method_21_code 22 = .ok (.iload_n 2, 1) := by decide +kernel
theorem dX7_mislaid_23 : decode prog_1_method_21_code 23 = .ok (.invokestatic 137, 3) := by decide +kernel
theorem dX7_mislaid_26 : decode prog_1_method_21_code 26 = .ok (.aload_n 0, 1) := by decide +kernel
theorem dX7_mislaid_27 : decode prog_1_method_21_code 27 = .ok (.getfield 37, 3) := by decide +kernel
theorem dX7_mislaid_30 : decode prog_1_method_21_code 30 = .ok (.getfield 141, 3) := by decide +kernel
theorem dX7_mislaid_33 : decode prog_1_method_21_code 33 = .ok (.iload_n 2, 1) := by decide +kernel
theorem dX7_mislaid_34 : decode prog_1_method_21_code 34 = .ok (.invokestatic 137, 3) := by decide +kernel
theorem dX7_mislaid_37 : decode prog_1_method_21_code 37 = .ok (.if_icmp .eq 9, 3) := by decide +kernel
theorem dX7_mislaid_40 : decode prog_1_method_21_code 40 = .ok (.iload_n 1, 1) := by decide +kernel
theorem dX7_mislaid_41 : decode prog_1_method_21_code 41 = .ok (.iconst 1, 1) := by decide +kernel
theorem dX7_mislaid_42 : decode prog_1_method_21_code 42 = .ok (.iload_n 2, 1) := by decide +kernel
theorem dX7_mislaid_43 : decode prog_1_method_21_code 43 = .ok (.ishl, 1) := by decide +kernel
theorem dX7_mislaid_44 : decode prog_1_method_21_code 44 = .ok (.ior, 1) := by decide +kernel
theorem dX7_mislaid_45 : decode prog_1_method_21_code 45 = .ok (.istore_n 1, 1) := by decide +kernel
theorem dX7_mislaid_46 : decode prog_1_method_21_code 46 = .ok (.iinc 2 1, 3) := by decide +kernel
theorem dX7_mislaid_49 : decode prog_1_method_21_code 49 = .ok (.goto (-45), 3) := by decide +kernel
theorem dX7_mislaid_52 : decode prog_1_method_21_code 52 = .ok (.iload_n 1, 1) := by decide +kernel
theorem dX7_mislaid_53 : decode prog_1_method_21_code 53 = .ok (.ireturn, 1) := by decide +kernel
theorem dX7_work_0 : decode prog_1_method_22_code 0 = .ok (.aload_n 0, 1) := by decide +kernel
theorem dX7_work_1 : decode prog_1_method_22_code 1 = .ok (.getfield 37, 3) := by decide +kernel
theorem dX7_work_4 : decode prog_1_method_22_code 4 = .ok (.invokevirtual 245, 3) := by decide +kernel
theorem dX7_work_7 : decode prog_1_method_22_code 7 = .ok (.ireturn, 1) := by decide +kernel
theorem dX7_stepsBetween_0 : decode prog_1_method_73_code 0 = .ok (.iload_n 0, 1) := by decide +kernel
theorem dX7_stepsBetween_1 : decode prog_1_method_73_code 1 = .ok (.iload_n 1, 1) := by decide +kernel
theorem dX7_stepsBetween_2 : decode prog_1_method_73_code 2 = .ok (.isub, 1) := by decide +kernel
theorem dX7_stepsBetween_3 : decode prog_1_method_73_code 3 = .ok (.invokestatic 307, 3) := by decide +kernel
theorem dX7_stepsBetween_6 : decode prog_1_method_73_code 6 = .ok (.istore_n 2, 1) := by decide +kernel
theorem dX7_stepsBetween_7 : decode prog_1_method_73_code 7 = .ok (.iload_n 2, 1) := by decide +kernel
theorem dX7_stepsBetween_8 : decode prog_1_method_73_code 8 = .ok (.bipush 6, 2) := by decide +kernel
theorem dX7_stepsBetween_10 : decode prog_1_method_73_code 10 = .ok (.iload_n 2, 1) := by decide +kernel
theorem dX7_stepsBetween_11 : decode prog_1_method_73_code 11 = .ok (.isub, 1) := by decide +kernel
theorem dX7_stepsBetween_12 : decode prog_1_method_73_code 12 = .ok (.invokestatic 332, 3) := by decide +kernel
theorem dX7_stepsBetween_15 : decode prog_1_method_73_code 15 = .ok (.ireturn, 1) := by decide +kernel
theorem dX7_roundedUp_0 : decode prog_1_method_74_code 0 = .ok (.iload_n 1, 1) := by decide +kernel
theorem dX7_roundedUp_1 : decode prog_1_method_74_code 1 = .ok (.ifCond .le 13, 3) := by decide +kernel
theorem dX7_roundedUp_4 : decode prog_1_method_74_code 4 = .ok (.iload_n 0, 1) := by decide +kernel
theorem dX7_roundedUp_5 : decode prog_1_method_74_code 5 = .ok (.iload_n 1, 1) := by decide +kernel
theorem dX7_roundedUp_6 : decode prog_1_method_74_code 6 = .ok (.iadd, 1) := by decide +kernel
theorem dX7_roundedUp_7 : decode prog_1_method_74_code 7 = .ok (.iconst 1, 1) := by decide +kernel
theorem dX7_roundedUp_8 : decode prog_1_method_74_code 8 = .ok (.isub, 1) := by decide +kernel
theorem dX7_roundedUp_9 : decode prog_1_method_74_code 9 = .ok (.iload_n 1, 1) := by decide +kernel
theorem dX7_roundedUp_10 : decode prog_1_method_74_code 10 = .ok (.idiv, 1) := by decide +kernel
theorem dX7_roundedUp_11 : decode prog_1_method_74_code 11 = .ok (.goto 4, 3) := by decide +kernel
theorem dX7_roundedUp_14 : decode prog_1_method_74_code 14 = .ok (.iconst 0, 1) := by decide +kernel
theorem dX7_roundedUp_15 : decode prog_1_method_74_code 15 = .ok (.ireturn, 1) := by decide +kernel
theorem dX7_first_0 : decode prog_1_method_23_code 0 = .ok (.aload_n 0, 1) := by decide +kernel
theorem dX7_first_1 : decode prog_1_method_23_code 1 = .ok (.getfield 41, 3) := by decide +kernel
theorem dX7_first_4 : decode prog_1_method_23_code 4 = .ok (.aload_n 0, 1) := by decide +kernel
theorem dX7_first_5 : decode prog_1_method_23_code 5 = .ok (.getfield 37, 3) := by decide +kernel
theorem dX7_first_8 : decode prog_1_method_23_code 8 = .ok (.invokevirtual 94, 3) := by decide +kernel
theorem dX7_first_11 : decode prog_1_method_23_code 11 = .ok (.iconst 0, 1) := by decide +kernel
theorem dX7_first_12 : decode prog_1_method_23_code 12 = .ok (.istore_n 2, 1) := by decide +kernel
theorem dX7_first_13 : decode prog_1_method_23_code 13 = .ok (.iload_n 2, 1) := by decide +kernel
theorem dX7_first_14 : decode prog_1_method_23_code 14 = .ok (.sipush 400, 3) := by decide +kernel
theorem dX7_first_17 : decode prog_1_method_23_code 17 = .ok (.if_icmp .gt 47, 3) := by decide +kernel
theorem dX7_first_20 : decode prog_1_method_23_code 20 = .ok (.aload_n 0, 1) := by decide +kernel
theorem dX7_first_21 : decode prog_1_method_23_code 21 = .ok (.getfield 41, 3) := by decide +kernel
theorem dX7_first_24 : decode prog_1_method_23_code 24 = .ok (.invokevirtual 224, 3) := by decide +kernel
theorem dX7_first_27 : decode prog_1_method_23_code 27 = .ok (.istore_n 3, 1) := by decide +kernel
theorem dX7_first_28 : decode prog_1_method_23_code 28 = .ok (.iload_n 3, 1) := by decide +kernel
theorem dX7_first_29 : decode prog_1_method_23_code 29 = .ok (.ifCond .eq 16, 3) := by decide +kernel
theorem dX7_first_32 : decode prog_1_method_23_code 32 = .ok (.iload_n 1, 1) := by decide +kernel
theorem dX7_first_33 : decode prog_1_method_23_code 33 = .ok (.ifCond .eq 10, 3) := by decide +kernel
theorem dX7_first_36 : decode prog_1_method_23_code 36 = .ok (.iload_n 3, 1) := by decide +kernel
theorem dX7_first_37 : decode prog_1_method_23_code 37 = .ok (.invokestatic 248, 3) := by decide +kernel
theorem dX7_first_40 : decode prog_1_method_23_code 40 = .ok (.goto 4, 3) := by decide +kernel
theorem dX7_first_43 : decode prog_1_method_23_code 43 = .ok (.iload_n 2, 1) := by decide +kernel
theorem dX7_first_44 : decode prog_1_method_23_code 44 = .ok (.ireturn, 1) := by decide +kernel
theorem dX7_first_45 : decode prog_1_method_23_code 45 = .ok (.aload_n 0, 1) := by decide +kernel
theorem dX7_first_46 : decode prog_1_method_23_code 46 = .ok (.getfield 41, 3) := by decide +kernel
theorem dX7_first_49 : decode prog_1_method_23_code 49 = .ok (.aload_n 0, 1) := by decide +kernel
theorem dX7_first_50 : decode prog_1_method_23_code 50 = .ok (.getfield 47, 3) := by decide +kernel
theorem dX7_first_53 : decode prog_1_method_23_code 53 = .ok (.iconst 0, 1) := by decide +kernel
theorem dX7_first_54 : decode prog_1_method_23_code 54 = .ok (.invokevirtual 235, 3) := by decide +kernel
theorem dX7_first_57 : decode prog_1_method_23_code 57 = .ok (.pop, 1) := by decide +kernel
theorem dX7_first_58 : decode prog_1_method_23_code 58 = .ok (.iinc 2 1, 3) := by decide +kernel
theorem dX7_first_61 : decode prog_1_method_23_code 61 = .ok (.goto (-48), 3) := by decide +kernel
theorem dX7_first_64 : decode prog_1_method_23_code 64 = .ok (.iconst (-1), 1) := by decide +kernel
theorem dX7_first_65 : decode prog_1_method_23_code 65 = .ok (.ireturn, 1) := by decide +kernel
theorem dX7_lowest_0 : decode prog_1_method_72_code 0 = .ok (.iconst 0, 1) := by decide +kernel
theorem dX7_lowest_1 : decode prog_1_method_72_code 1 = .ok (.istore_n 1, 1) := by decide +kernel
theorem dX7_lowest_2 : decode prog_1_method_72_code 2 = .ok (.iload_n 1, 1) := by decide +kernel
theorem dX7_lowest_3 : decode prog_1_method_72_code 3 = .ok (.bipush 12, 2) := by decide +kernel
theorem dX7_lowest_5 : decode prog_1_method_72_code 5 = .ok (.if_icmp .ge 19, 3) := by decide +kernel
theorem dX7_lowest_8 : decode prog_1_method_72_code 8 = .ok (.iload_n 0, 1) := by decide +kernel
theorem dX7_lowest_9 : decode prog_1_method_72_code 9 = .ok (.iload_n 1, 1) := by decide +kernel
theorem dX7_lowest_10 : decode prog_1_method_72_code 10 = .ok (.ishr, 1) := by decide +kernel
theorem dX7_lowest_11 : decode prog_1_method_72_code 11 = .ok (.iconst 1, 1) := by decide +kernel
theorem dX7_lowest_12 : decode prog_1_method_72_code 12 = .ok (.iand, 1) := by decide +kernel
theorem dX7_lowest_13 : decode prog_1_method_72_code 13 = .ok (.ifCond .eq 5, 3) := by decide +kernel
theorem dX7_lowest_16 : decode prog_1_method_72_code 16 = .ok (.iload_n 1, 1) := by decide +kernel
theorem dX7_lowest_17 : decode prog_1_method_72_code 17 = .ok (.ireturn, 1) := by decide +kernel
theorem dX7_lowest_18 : decode prog_1_method_72_code 18 = .ok (.iinc 1 1, 3) := by decide +kernel
theorem dX7_lowest_21 : decode prog_1_method_72_code 21 = .ok (.goto (-19), 3) := by decide +kernel
theorem dX7_lowest_24 : decode prog_1_method_72_code 24 = .ok (.iconst (-1), 1) := by decide +kernel
theorem dX7_lowest_25 : decode prog_1_method_72_code 25 = .ok (.ireturn, 1) := by decide +kernel
theorem dX7_round_0 : decode prog_1_method_24_code 0 = .ok (.aload_n 0, 1) := by decide +kernel
theorem dX7_round_1 : decode prog_1_method_24_code 1 = .ok (.getfield 41, 3) := by decide +kernel
theorem dX7_round_4 : decode prog_1_method_24_code 4 = .ok (.aload_n 0, 1) := by decide +kernel
theorem dX7_round_5 : decode prog_1_method_24_code 5 = .ok (.getfield 37, 3) := by decide +kernel
theorem dX7_round_8 : decode prog_1_method_24_code 8 = .ok (.invokevirtual 94, 3) := by decide +kernel
theorem dX7_round_11 : decode prog_1_method_24_code 11 = .ok (.iconst 1, 1) := by decide +kernel
theorem dX7_round_12 : decode prog_1_method_24_code 12 = .ok (.istore_n 1, 1) := by decide +kernel
theorem dX7_round_13 : decode prog_1_method_24_code 13 = .ok (.iload_n 1, 1) := by decide +kernel
theorem dX7_round_14 : decode prog_1_method_24_code 14 = .ok (.bipush 60, 2) := by decide +kernel
theorem dX7_round_16 : decode prog_1_method_24_code 16 = .ok (.if_icmp .gt 31, 3) := by decide +kernel
theorem dX7_round_19 : decode prog_1_method_24_code 19 = .ok (.aload_n 0, 1) := by decide +kernel
theorem dX7_round_20 : decode prog_1_method_24_code 20 = .ok (.getfield 41, 3) := by decide +kernel
theorem dX7_round_23 : decode prog_1_method_24_code 23 = .ok (.aload_n 0, 1) := by decide +kernel
theorem dX7_round_24 : decode prog_1_method_24_code 24 = .ok (.getfield 47, 3) := by decide +kernel
theorem dX7_round_27 : decode prog_1_method_24_code 27 = .ok (.iconst 0, 1) := by decide +kernel
theorem dX7_round_28 : decode prog_1_method_24_code 28 = .ok (.invokevirtual 235, 3) := by decide +kernel
theorem dX7_round_31 : decode prog_1_method_24_code 31 = .ok (.pop, 1) := by decide +kernel
theorem dX7_round_32 : decode prog_1_method_24_code 32 = .ok (.aload_n 0, 1) := by decide +kernel
theorem dX7_round_33 : decode prog_1_method_24_code 33 = .ok (.invokevirtual 251, 3) := by decide +kernel
theorem dX7_round_36 : decode prog_1_method_24_code 36 = .ok (.ifCond .eq 5, 3) := by decide +kernel
theorem dX7_round_39 : decode prog_1_method_24_code 39 = .ok (.iload_n 1, 1) := by decide +kernel
theorem dX7_round_40 : decode prog_1_method_24_code 40 = .ok (.ireturn, 1) := by decide +kernel
theorem dX7_round_41 : decode prog_1_method_24_code 41 = .ok (.iinc 1 1, 3) := by decide +kernel
theorem dX7_round_44 : decode prog_1_method_24_code 44 = .ok (.goto (-31), 3) := by decide +kernel
theorem dX7_round_47 : decode prog_1_method_24_code 47 = .ok (.iconst (-1), 1) := by decide +kernel
theorem dX7_round_48 : decode prog_1_method_24_code 48 = .ok (.ireturn, 1) := by decide +kernel
theorem dX7_sameRooms_0 : decode prog_1_method_70_code 0 = .ok (.iconst 1, 1) := by decide +kernel
theorem dX7_sameRooms_1 : decode prog_1_method_70_code 1 = .ok (.istore_n 1, 1) := by decide +kernel
theorem dX7_sameRooms_2 : decode prog_1_method_70_code 2 = .ok (.iconst 0, 1) := by decide +kernel
theorem dX7_sameRooms_3 : decode prog_1_method_70_code 3 = .ok (.istore_n 2, 1) := by decide +kernel
theorem dX7_sameRooms_4 : decode prog_1_method_70_code 4 = .ok (.iload_n 2, 1) := by decide +kernel
theorem dX7_sameRooms_5 : decode prog_1_method_70_code 5 = .ok (.aload_n 0, 1) := by decide +kernel
theorem dX7_sameRooms_6 : decode prog_1_method_70_code 6 = .ok (.getfield 37, 3) := by decide +kernel
theorem dX7_sameRooms_9 : decode prog_1_method_70_code 9 = .ok (.getfield 242, 3) := by decide +kernel
theorem dX7_sameRooms_12 : decode prog_1_method_70_code 12 = .ok (.if_icmp .ge 44, 3) := by decide +kernel
theorem dX7_sameRooms_15 : decode prog_1_method_70_code 15 = .ok (.iload_n 1, 1) := by decide +kernel
theorem dX7_sameRooms_16 : decode prog_1_method_70_code 16 = .ok (.ifCond .eq 32, 3) := by decide +kernel
theorem dX7_sameRooms_19 : decode prog_1_method_70_code 19 = .ok (.aload_n 0, 1) := by decide +kernel
theorem dX7_sameRooms_20 : decode prog_1_method_70_code 20 = .ok (.getfield 41, 3) := by decide +kernel
theorem dX7_sameRooms_23 : decode prog_1_method_70_code 23 = .ok (.getfield 134, 3) := by decide +kernel
theorem dX7_sameRooms_26 : decode prog_1_method_70_code 26 = .ok (.iload_n 2, 1) := by decide +kernel
theorem dX7_sameRooms_27 : decode prog_1_method_70_code 27 = .ok (.invokestatic 137, 3) := by decide +kernel
theorem dX7_sameRooms_30 : decode prog_1_method_70_code 30 = .ok (.aload_n 0, 1) := by decide +kernel
theorem dX7_sameRooms_31 : decode prog_1_method_70_code 31 = .ok (.getfield 37, 3) := by decide +kernel
theorem dX7_sameRooms_34 : decode prog_1_method_70_code 34 = .ok (.getfield 134, 3) := by decide +kernel
theorem dX7_sameRooms_37 : decode prog_1_method_70_code 37 = .ok (.iload_n 2, 1) := by decide +kernel
theorem dX7_sameRooms_38 : decode prog_1_method_70_code 38 = .ok (.invokestatic 137, 3) := by decide +kernel
theorem dX7_sameRooms_41 : decode prog_1_method_70_code 41 = .ok (.if_icmp .ne 7, 3) := by decide +kernel
theorem dX7_sameRooms_44 : decode prog_1_method_70_code 44 = .ok (.iconst 1, 1) := by decide +kernel
theorem dX7_sameRooms_45 : decode prog_1_method_70_code 45 = .ok (.goto 4, 3) := by decide +kernel
theorem dX7_sameRooms_48 : decode prog_1_method_70_code 48 = .ok (.iconst 0, 1) := by decide +kernel
theorem dX7_sameRooms_49 : decode prog_1_method_70_code 49 = .ok (.istore_n 1, 1) := by decide +kernel
theorem dX7_sameRooms_50 : decode prog_1_method_70_code 50 = .ok (.iinc 2 1, 3) := by decide +kernel
theorem dX7_sameRooms_53 : decode prog_1_method_70_code 53 = .ok (.goto (-49), 3) := by decide +kernel
theorem dX7_sameRooms_56 : decode prog_1_method_70_code 56 = .ok (.iload_n 1, 1) := by decide +kernel
theorem dX7_sameRooms_57 : decode prog_1_method_70_code 57 = .ok (.ireturn, 1) := by decide +kernel
theorem dX7_search_0 : decode prog_1_method_27_code 0 = .ok (.iload_n 1, 1) := by decide +kernel
theorem dX7_search_1 : decode prog_1_method_27_code 1 = .ok (.ifCond .lt 9, 3) := by decide +kernel
theorem dX7_search_4 : decode prog_1_method_27_code 4 = .ok (.iload_n 1, 1) := by decide +kernel
theorem dX7_search_5 : decode prog_1_method_27_code 5 = .ok (.bipush 6, 2) := by decide +kernel
theorem dX7_search_7 : decode prog_1_method_27_code 7 = .ok (.if_icmp .lt 5, 3) := by decide +kernel
theorem dX7_search_10 : decode prog_1_method_27_code 10 = .ok (.iconst (-1), 1) := by decide +kernel
theorem dX7_search_11 : decode prog_1_method_27_code 11 = .ok (.ireturn, 1) := by decide +kernel
theorem dX7_search_12 : decode prog_1_method_27_code 12 = .ok (.aload_n 0, 1) := by decide +kernel
theorem dX7_search_13 : decode prog_1_method_27_code 13 = .ok (.invokevirtual 262, 3) := by decide +kernel
theorem dX7_search_16 : decode prog_1_method_27_code 16 = .ok (.aload_n 0, 1) := by decide +kernel
theorem dX7_search_17 : decode prog_1_method_27_code 17 = .ok (.getfield 87, 3) := by decide +kernel
theorem dX7_search_20 : decode prog_1_method_27_code 20 = .ok (.iload_n 1, 1) := by decide +kernel
theorem dX7_search_21 : decode prog_1_method_27_code 21 = .ok (.invokestatic 137, 3) := by decide +kernel
theorem dX7_search_24 : decode prog_1_method_27_code 24 = .ok (.ireturn, 1) := by decide +kernel
theorem dX7_orderRooms_0 : decode prog_1_method_79_code 0 = .ok (.iconst 0, 1) := by decide +kernel
theorem dX7_orderRooms_1 : decode prog_1_method_79_code 1 = .ok (.istore_n 1, 1) := by decide +kernel
theorem dX7_orderRooms_2 : decode prog_1_method_79_code 2 = .ok (.iload_n 1, 1) := by decide +kernel
theorem dX7_orderRooms_3 : decode prog_1_method_79_code 3 = .ok (.bipush 6, 2) := by decide +kernel
theorem dX7_orderRooms_5 : decode prog_1_method_79_code 5 = .ok (.if_icmp .ge 66, 3) := by decide +kernel
theorem dX7_orderRooms_8 : decode prog_1_method_79_code 8 = .ok (.iload_n 1, 1) := by decide +kernel
theorem dX7_orderRooms_9 : decode prog_1_method_79_code 9 = .ok (.istore_n 2, 1) := by decide +kernel
theorem dX7_orderRooms_10 : decode prog_1_method_79_code 10 = .ok (.iload_n 2, 1) := by decide +kernel
theorem dX7_orderRooms_11 : decode prog_1_method_79_code 11 = .ok (.ifCond .le 45, 3) := by decide +kernel
theorem dX7_orderRooms_14 : decode prog_1_method_79_code 14 = .ok (.aload_n 0, 1) := by decide +kernel
theorem dX7_orderRooms_15 : decode prog_1_method_79_code 15 = .ok (.iload_n 1, 1) := by decide +kernel
theorem dX7_orderRooms_16 : decode prog_1_method_79_code 16 = .ok (.aload_n 0, 1) := by decide +kernel
theorem dX7_orderRooms_17 : decode prog_1_method_79_code 17 = .ok (.getfield 87, 3) := by decide +kernel
theorem dX7_orderRooms_20 : decode prog_1_method_79_code 20 = .ok (.iload_n 2, 1) := by decide +kernel
theorem dX7_orderRooms_21 : decode prog_1_method_79_code 21 = .ok (.iconst 1, 1) := by decide +kernel
theorem dX7_orderRooms_22 : decode prog_1_method_79_code 22 = .ok (.isub, 1) := by decide +kernel
theorem dX7_orderRooms_23 : decode prog_1_method_79_code 23 = .ok (.invokestatic 137, 3) := by decide +kernel
theorem dX7_orderRooms_26 : decode prog_1_method_79_code 26 = .ok (.invokevirtual 381, 3) := by decide +kernel
theorem dX7_orderRooms_29 : decode prog_1_method_79_code 29 = .ok (.ifCond .eq 27, 3) := by decide +kernel
theorem dX7_orderRooms_32 : decode prog_1_method_79_code 32 = .ok (.aload_n 0, 1) := by decide +kernel
theorem dX7_orderRooms_33 : decode prog_1_method_79_code 33 = .ok (.getfield 87, 3) := by decide +kernel
theorem dX7_orderRooms_36 : decode prog_1_method_79_code 36 = .ok (.iload_n 2, 1) := by decide +kernel
theorem dX7_orderRooms_37 : decode prog_1_method_79_code 37 = .ok (.aload_n 0, 1) := by decide +kernel
theorem dX7_orderRooms_38 : decode prog_1_method_79_code 38 = .ok (.getfield 87, 3) := by decide +kernel
theorem dX7_orderRooms_41 : decode prog_1_method_79_code 41 = .ok (.iload_n 2, 1) := by decide +kernel
theorem dX7_orderRooms_42 : decode prog_1_method_79_code 42 = .ok (.iconst 1, 1) := by decide +kernel
theorem dX7_orderRooms_43 : decode prog_1_method_79_code 43 = .ok (.isub, 1) := by decide +kernel
theorem dX7_orderRooms_44 : decode prog_1_method_79_code 44 = .ok (.invokestatic 137, 3) := by decide +kernel
theorem dX7_orderRooms_47 : decode prog_1_method_79_code 47 = .ok (.invokestatic 211, 3) := by decide +kernel
theorem dX7_orderRooms_50 : decode prog_1_method_79_code 50 = .ok (.iinc 2 (-1), 3) := by decide +kernel
theorem dX7_orderRooms_53 : decode prog_1_method_79_code 53 = .ok (.goto (-43), 3) := by decide +kernel
theorem dX7_orderRooms_56 : decode prog_1_method_79_code 56 = .ok (.aload_n 0, 1) := by decide +kernel
theorem dX7_orderRooms_57 : decode prog_1_method_79_code 57 = .ok (.getfield 87, 3) := by decide +kernel
theorem dX7_orderRooms_60 : decode prog_1_method_79_code 60 = .ok (.iload_n 2, 1) := by decide +kernel
theorem dX7_orderRooms_61 : decode prog_1_method_79_code 61 = .ok (.iload_n 1, 1) := by decide +kernel
theorem dX7_orderRooms_62 : decode prog_1_method_79_code 62 = .ok (.invokestatic 211, 3) := by decide +kernel
theorem dX7_orderRooms_65 : decode prog_1_method_79_code 65 = .ok (.iinc 1 1, 3) := by decide +kernel
theorem dX7_orderRooms_68 : decode prog_1_method_79_code 68 = .ok (.goto (-66), 3) := by decide +kernel
theorem dX7_orderRooms_71 : decode prog_1_method_79_code 71 = .ok (.return_, 1) := by decide +kernel
theorem dX7_goesAhead_0 : decode prog_1_method_80_code 0 = .ok (.aload_n 0, 1) := by decide +kernel
theorem dX7_goesAhead_1 : decode prog_1_method_80_code 1 = .ok (.iload_n 1, 1) := by decide +kernel
theorem dX7_goesAhead_2 : decode prog_1_method_80_code 2 = .ok (.invokevirtual 265, 3) := by decide +kernel
theorem dX7_goesAhead_5 : decode prog_1_method_80_code 5 = .ok (.aload_n 0, 1) := by decide +kernel
theorem dX7_goesAhead_6 : decode prog_1_method_80_code 6 = .ok (.iload_n 2, 1) := by decide +kernel
theorem dX7_goesAhead_7 : decode prog_1_method_80_code 7 = .ok (.invokevirtual 268, 3) := by decide +kernel
theorem dX7_goesAhead_10 : decode prog_1_method_80_code 10 = .ok (.imul, 1) := by decide +kernel
theorem dX7_goesAhead_11 : decode prog_1_method_80_code 11 = .ok (.aload_n 0, 1) := by decide +kernel
theorem dX7_goesAhead_12 : decode prog_1_method_80_code 12 = .ok (.iload_n 2, 1) := by decide +kernel
theorem dX7_goesAhead_13 : decode prog_1_method_80_code 13 = .ok (.invokevirtual 265, 3) := by decide +kernel
theorem dX7_goesAhead_16 : decode prog_1_method_80_code 16 = .ok (.aload_n 0, 1) := by decide +kernel
theorem dX7_goesAhead_17 : decode prog_1_method_80_code 17 = .ok (.iload_n 1, 1) := by decide +kernel
theorem dX7_goesAhead_18 : decode prog_1_method_80_code 18 = .ok (.invokevirtual 268, 3) := by decide +kernel
theorem dX7_goesAhead_21 : decode prog_1_method_80_code 21 = .ok (.imul, 1) := by decide +kernel
theorem dX7_goesAhead_22 : decode prog_1_method_80_code 22 = .ok (.if_icmp .ge 7, 3) := by decide +kernel
theorem dX7_goesAhead_25 : decode prog_1_method_80_code 25 = .ok (.iconst 1, 1) := by decide +kernel
theorem dX7_goesAhead_26 : decode prog_1_method_80_code 26 = .ok (.goto 4, 3) := by decide +kernel
theorem dX7_goesAhead_29 : decode prog_1_method_80_code 29 = .ok (.iconst 0, 1) := by decide +kernel
theorem dX7_goesAhead_30 : decode prog_1_method_80_code 30 = .ok (.ireturn, 1) := by decide +kernel
theorem dX7_lookCost_0 : decode prog_1_method_78_code 0 = .ok (.aload_n 0, 1) := by decide +kernel
theorem dX7_lookCost_1 : decode prog_1_method_78_code 1 = .ok (.getfield 37, 3) := by decide +kernel
theorem dX7_lookCost_4 : decode prog_1_method_78_code 4 = .ok (.getfield 173, 3) := by decide +kernel
theorem dX7_lookCost_7 : decode prog_1_method_78_code 7 = .ok (.iload_n 1, 1) := by decide +kernel
theorem dX7_lookCost_8 : decode prog_1_method_78_code 8 = .ok (.invokestatic 137, 3) := by decide +kernel
theorem dX7_lookCost_11 : decode prog_1_method_78_code 11 = .ok (.iconst 1, 1) := by decide +kernel
theorem dX7_lookCost_12 : decode prog_1_method_78_code 12 = .ok (.iadd, 1) := by decide +kernel
theorem dX7_lookCost_13 : decode prog_1_method_78_code 13 = .ok (.ireturn, 1) := by decide +kernel
theorem dX7_likelihood_0 : decode prog_1_method_77_code 0 = .ok (.aload_n 0, 1) := by decide +kernel
theorem dX7_likelihood_1 : decode prog_1_method_77_code 1 = .ok (.getfield 37, 3) := by decide +kernel
theorem dX7_likelihood_4 : decode prog_1_method_77_code 4 = .ok (.aload_n 0, 1) := by decide +kernel
theorem dX7_likelihood_5 : decode prog_1_method_77_code 5 = .ok (.getfield 37, 3) := by decide +kernel
theorem dX7_likelihood_8 : decode prog_1_method_77_code 8 = .ok (.getfield 134, 3) := by decide +kernel
theorem dX7_likelihood_11 : decode prog_1_method_77_code 11 = .ok (.iload_n 1, 1) := by decide +kernel
theorem dX7_likelihood_12 : decode prog_1_method_77_code 12 = .ok (.invokevirtual 179, 3) := by decide +kernel
theorem dX7_likelihood_15 : decode prog_1_method_77_code 15 = .ok (.invokestatic 227, 3) := by decide +kernel
theorem dX7_likelihood_18 : decode prog_1_method_77_code 18 = .ok (.iconst 1, 1) := by decide +kernel
theorem dX7_likelihood_19 : decode prog_1_method_77_code 19 = .ok (.iadd, 1) := by decide +kernel
theorem dX7_likelihood_20 : decode prog_1_method_77_code 20 = .ok (.ireturn, 1) := by decide +kernel
theorem dX7_costs_0 : decode prog_1_method_28_code 0 = .ok (.aload_n 0, 1) := by decide +kernel
theorem dX7_costs_1 : decode prog_1_method_28_code 1 = .ok (.invokevirtual 262, 3) := by decide +kernel
theorem dX7_costs_4 : decode prog_1_method_28_code 4 = .ok (.iconst 0, 1) := by decide +kernel
theorem dX7_costs_5 : decode prog_1_method_28_code 5 = .ok (.istore_n 1, 1) := by decide +kernel
theorem dX7_costs_6 : decode prog_1_method_28_code 6 = .ok (.iconst 0, 1) := by decide +kernel
theorem dX7_costs_7 : decode prog_1_method_28_code 7 = .ok (.istore_n 2, 1) := by decide +kernel
theorem dX7_costs_8 : decode prog_1_method_28_code 8 = .ok (.iconst 0, 1) := by decide +kernel
theorem dX7_costs_9 : decode prog_1_method_28_code 9 = .ok (.istore_n 3, 1) := by decide +kernel
theorem dX7_costs_10 : decode prog_1_method_28_code 10 = .ok (.iload_n 3, 1) := by decide +kernel
theorem dX7_costs_11 : decode prog_1_method_28_code 11 = .ok (.bipush 6, 2) := by decide +kernel
theorem dX7_costs_13 : decode prog_1_method_28_code 13 = .ok (.if_icmp .ge 39, 3) := by decide +kernel
theorem dX7_costs_16 : decode prog_1_method_28_code 16 = .ok (.aload_n 0, 1) := by decide +kernel
theorem dX7_costs_17 : decode prog_1_method_28_code 17 = .ok (.getfield 87, 3) := by decide +kernel
theorem dX7_costs_20 : decode prog_1_method_28_code 20 = .ok (.iload_n 3, 1) := by decide +kernel
theorem dX7_costs_21 : decode prog_1_method_28_code 21 = .ok (.invokestatic 137, 3) := by decide +kernel
theorem dX7_costs_24 : decode prog_1_method_28_code 24 = .ok (.istore 4, 2) := by decide +kernel
theorem dX7_costs_26 : decode prog_1_method_28_code 26 = .ok (.iload_n 1, 1) := by decide +kernel
theorem dX7_costs_27 : decode prog_1_method_28_code 27 = .ok (.aload_n 0, 1) := by decide +kernel
theorem dX7_costs_28 : decode prog_1_method_28_code 28 = .ok (.iload 4, 2) := by decide +kernel
theorem dX7_costs_30 : decode prog_1_method_28_code 30 = .ok (.invokevirtual 265, 3) := by decide +kernel
theorem dX7_costs_33 : decode prog_1_method_28_code 33 = .ok (.iadd, 1) := by decide +kernel
theorem dX7_costs_34 : decode prog_1_method_28_code 34 = .ok (.istore_n 1, 1) := by decide +kernel
theorem dX7_costs_35 : decode prog_1_method_28_code 35 = .ok (.iload_n 2, 1) := by decide +kernel
theorem dX7_costs_36 : decode prog_1_method_28_code 36 = .ok (.aload_n 0, 1) := by decide +kernel
theorem dX7_costs_37 : decode prog_1_method_28_code 37 = .ok (.iload 4, 2) := by decide +kernel
theorem dX7_costs_39 : decode prog_1_method_28_code 39 = .ok (.invokevirtual 268, 3) := by decide +kernel
theorem dX7_costs_42 : decode prog_1_method_28_code 42 = .ok (.iload_n 1, 1) := by decide +kernel
theorem dX7_costs_43 : decode prog_1_method_28_code 43 = .ok (.imul, 1) := by decide +kernel
theorem dX7_costs_44 : decode prog_1_method_28_code 44 = .ok (.iadd, 1) := by decide +kernel
theorem dX7_costs_45 : decode prog_1_method_28_code 45 = .ok (.istore_n 2, 1) := by decide +kernel
theorem dX7_costs_46 : decode prog_1_method_28_code 46 = .ok (.iinc 3 1, 3) := by decide +kernel
theorem dX7_costs_49 : decode prog_1_method_28_code 49 = .ok (.goto (-39), 3) := by decide +kernel
theorem dX7_costs_52 : decode prog_1_method_28_code 52 = .ok (.iload_n 2, 1) := by decide +kernel
theorem dX7_costs_53 : decode prog_1_method_28_code 53 = .ok (.ireturn, 1) := by decide +kernel
theorem dX7_rests_0 : decode prog_1_method_31_code 0 = .ok (.aload_n 0, 1) := by decide +kernel
theorem dX7_rests_1 : decode prog_1_method_31_code 1 = .ok (.getfield 37, 3) := by decide +kernel
theorem dX7_rests_4 : decode prog_1_method_31_code 4 = .ok (.invokevirtual 245, 3) := by decide +kernel
theorem dX7_rests_7 : decode prog_1_method_31_code 7 = .ok (.istore_n 1, 1) := by decide +kernel
theorem dX7_rests_8 : decode prog_1_method_31_code 8 = .ok (.aload_n 0, 1) := by decide +kernel
theorem dX7_rests_9 : decode prog_1_method_31_code 9 = .ok (.getfield 37, 3) := by decide +kernel
theorem dX7_rests_12 : decode prog_1_method_31_code 12 = .ok (.invokevirtual 283, 3) := by decide +kernel
theorem dX7_rests_15 : decode prog_1_method_31_code 15 = .ok (.istore_n 2, 1) := by decide +kernel
theorem dX7_rests_16 : decode prog_1_method_31_code 16 = .ok (.iconst 0, 1) := by decide +kernel
theorem dX7_rests_17 : decode prog_1_method_31_code 17 = .ok (.istore_n 3, 1) := by decide +kernel
theorem dX7_rests_18 : decode prog_1_method_31_code 18 = .ok (.iconst 0, 1) := by decide +kernel
theorem dX7_rests_19 : decode prog_1_method_31_code 19 = .ok (.istore 4, 2) := by decide +kernel
theorem dX7_rests_21 : decode prog_1_method_31_code 21 = .ok (.iload 4, 2) := by decide +kernel
theorem dX7_rests_23 : decode prog_1_method_31_code 23 = .ok (.iconst 4, 1) := by decide +kernel
theorem dX7_rests_24 : decode prog_1_method_31_code 24 = .ok (.if_icmp .ge 98, 3) := by decide +kernel
theorem dX7_rests_27 : decode prog_1_method_31_code 27 = .ok (.iload 4, 2) := by decide +kernel
theorem dX7_rests_29 : decode prog_1_method_31_code 29 = .ok (.iconst 1, 1) := by decide +kernel
theorem dX7_rests_30 : decode prog_1_method_31_code 30 = .ok (.ishr, 1) := by decide +kernel
theorem dX7_rests_31 : decode prog_1_method_31_code 31 = .ok (.istore 5, 2) := by decide +kernel
theorem dX7_rests_33 : decode prog_1_method_31_code 33 = .ok (.iload 4, 2) := by decide +kernel
theorem dX7_rests_35 : decode prog_1_method_31_code 35 = .ok (.iconst 1, 1) := by decide +kernel
theorem dX7_rests_36 : decode prog_1_method_31_code 36 = .ok (.iand, 1) := by decide +kernel
theorem dX7_rests_37 : decode prog_1_method_31_code 37 = .ok (.istore 6, 2) := by decide +kernel
theorem dX7_rests_39 : decode prog_1_method_31_code 39 = .ok (.iload 5, 2) := by decide +kernel
theorem dX7_rests_41 : decode prog_1_method_31_code 41 = .ok (.iload 6, 2) := by decide +kernel
theorem dX7_rests_43 : decode prog_1_method_31_code 43 = .ok (.iload_n 1, 1) := by decide +kernel
theorem dX7_rests_44 : decode prog_1_method_31_code 44 = .ok (.iload_n 2, 1) := by decide +kernel
theorem dX7_rests_45 : decode prog_1_method_31_code 45 = .ok (.invokestatic 286, 3) := by decide +kernel
theorem dX7_rests_48 : decode prog_1_method_31_code 48 = .ok (.iconst 1, 1) := by decide +kernel
theorem dX7_rests_49 : decode prog_1_method_31_code 49 = .ok (.iload 5, 2) := by decide +kernel
theorem dX7_rests_51 : decode prog_1_method_31_code 51 = .ok (.isub, 1) := by decide +kernel
theorem dX7_rests_52 : decode prog_1_method_31_code 52 = .ok (.iload 6, 2) := by decide +kernel
theorem dX7_rests_54 : decode prog_1_method_31_code 54 = .ok (.iload_n 1, 1) := by decide +kernel
theorem dX7_rests_55 : decode prog_1_method_31_code 55 = .ok (.iload_n 2, 1) := by decide +kernel
theorem dX7_rests_56 : decode prog_1_method_31_code 56 = .ok (.invokestatic 286, 3) := by decide +kernel
theorem dX7_rests_59 : decode prog_1_method_31_code 59 = .ok (.if_icmp .gt 7, 3) := by decide +kernel
theorem dX7_rests_62 : decode prog_1_method_31_code 62 = .ok (.iconst 1, 1) := by decide +kernel
theorem dX7_rests_63 : decode prog_1_method_31_code 63 = .ok (.goto 4, 3) := by decide +kernel
theorem dX7_rests_66 : decode prog_1_method_31_code 66 = .ok (.iconst 0, 1) := by decide +kernel
theorem dX7_rests_67 : decode prog_1_method_31_code 67 = .ok (.istore 7, 2) := by decide +kernel
theorem dX7_rests_69 : decode prog_1_method_31_code 69 = .ok (.iload 6, 2) := by decide +kernel
theorem dX7_rests_71 : decode prog_1_method_31_code 71 = .ok (.iload 5, 2) := by decide +kernel
theorem dX7_rests_73 : decode prog_1_method_31_code 73 = .ok (.iload_n 1, 1) := by decide +kernel
theorem dX7_rests_74 : decode prog_1_method_31_code 74 = .ok (.iload_n 2, 1) := by decide +kernel
theorem dX7_rests_75 : decode prog_1_method_31_code 75 = .ok (.invokestatic 286, 3) := by decide +kernel
theorem dX7_rests_78 : decode prog_1_method_31_code 78 = .ok (.iconst 1, 1) := by decide +kernel
theorem dX7_rests_79 : decode prog_1_method_31_code 79 = .ok (.iload 6, 2) := by decide +kernel
theorem dX7_rests_81 : decode prog_1_method_31_code 81 = .ok (.isub, 1) := by decide +kernel
theorem dX7_rests_82 : decode prog_1_method_31_code 82 = .ok (.iload 5, 2) := by decide +kernel
theorem dX7_rests_84 : decode prog_1_method_31_code 84 = .ok (.iload_n 1, 1) := by decide +kernel
theorem dX7_rests_85 : decode prog_1_method_31_code 85 = .ok (.iload_n 2, 1) := by decide +kernel
theorem dX7_rests_86 : decode prog_1_method_31_code 86 = .ok (.invokestatic 286, 3) := by decide +kernel
theorem dX7_rests_89 : decode prog_1_method_31_code 89 = .ok (.if_icmp .gt 7, 3) := by decide +kernel
theorem dX7_rests_92 : decode prog_1_method_31_code 92 = .ok (.iconst 1, 1) := by decide +kernel
theorem dX7_rests_93 : decode prog_1_method_31_code 93 = .ok (.goto 4, 3) := by decide +kernel
theorem dX7_rests_96 : decode prog_1_method_31_code 96 = .ok (.iconst 0, 1) := by decide +kernel
theorem dX7_rests_97 : decode prog_1_method_31_code 97 = .ok (.istore 8, 2) := by decide +kernel
theorem dX7_rests_99 : decode prog_1_method_31_code 99 = .ok (.iload 7, 2) := by decide +kernel
theorem dX7_rests_101 : decode prog_1_method_31_code 101 = .ok (.ifCond .eq 15, 3) := by decide +kernel
theorem dX7_rests_104 : decode prog_1_method_31_code 104 = .ok (.iload 8, 2) := by decide +kernel
theorem dX7_rests_106 : decode prog_1_method_31_code 106 = .ok (.ifCond .eq 10, 3) := by decide +kernel
theorem dX7_rests_109 : decode prog_1_method_31_code 109 = .ok (.iload_n 3, 1) := by decide +kernel
theorem dX7_rests_110 : decode prog_1_method_31_code 110 = .ok (.iconst 1, 1) := by decide +kernel
theorem dX7_rests_111 : decode prog_1_method_31_code 111 = .ok (.iload 4, 2) := by decide +kernel
theorem dX7_rests_113 : decode prog_1_method_31_code 113 = .ok (.ishl, 1) := by decide +kernel
theorem dX7_rests_114 : decode prog_1_method_31_code 114 = .ok (.ior, 1) := by decide +kernel
theorem dX7_rests_115 : decode prog_1_method_31_code 115 = .ok (.istore_n 3, 1) := by decide +kernel
theorem dX7_rests_116 : decode prog_1_method_31_code 116 = .ok (.iinc 4 1, 3) := by decide +kernel
theorem dX7_rests_119 : decode prog_1_method_31_code 119 = .ok (.goto (-98), 3) := by decide +kernel
theorem dX7_rests_122 : decode prog_1_method_31_code 122 = .ok (.iload_n 3, 1) := by decide +kernel
theorem dX7_rests_123 : decode prog_1_method_31_code 123 = .ok (.ireturn, 1) := by decide +kernel
theorem dX7_restCost_0 : decode prog_1_method_76_code 0 = .ok (.iload_n 0, 1) := by decide +kernel
theorem dX7_restCost_1 : decode prog_1_method_76_code 1 = .ok (.ifCond .ne 17, 3) := by decide +kernel
theorem dX7_restCost_4 : decode prog_1_method_76_code 4 = .ok (.iload_n 1, 1) := by decide +kernel
theorem dX7_restCost_5 : decode prog_1_method_76_code 5 = .ok (.ifCond .ne 11, 3) := by decide +kernel
theorem dX7_restCost_8 : decode prog_1_method_76_code 8 = .ok (.iload_n 2, 1) := by decide +kernel
theorem dX7_restCost_9 : decode prog_1_method_76_code 9 = .ok (.iconst 2, 1) := by decide +kernel
theorem dX7_restCost_10 : decode prog_1_method_76_code 10 = .ok (.invokestatic 280, 3) := by decide +kernel
theorem dX7_restCost_13 : decode prog_1_method_76_code 13 = .ok (.goto 4, 3) := by decide +kernel
theorem dX7_restCost_16 : decode prog_1_method_76_code 16 = .ok (.iload_n 2, 1) := by decide +kernel
theorem dX7_restCost_17 : decode prog_1_method_76_code 17 = .ok (.ireturn, 1) := by decide +kernel
theorem dX7_restCost_18 : decode prog_1_method_76_code 18 = .ok (.iload_n 1, 1) := by decide +kernel
theorem dX7_restCost_19 : decode prog_1_method_76_code 19 = .ok (.ifCond .ne 7, 3) := by decide +kernel
theorem dX7_restCost_22 : decode prog_1_method_76_code 22 = .ok (.iconst 0, 1) := by decide +kernel
theorem dX7_restCost_23 : decode prog_1_method_76_code 23 = .ok (.goto 4, 3) := by decide +kernel
theorem dX7_restCost_26 : decode prog_1_method_76_code 26 = .ok (.iload_n 3, 1) := by decide +kernel
theorem dX7_restCost_27 : decode prog_1_method_76_code 27 = .ok (.ireturn, 1) := by decide +kernel
theorem dX7_due_0 : decode prog_1_method_32_code 0 = .ok (.aload_n 0, 1) := by decide +kernel
theorem dX7_due_1 : decode prog_1_method_32_code 1 = .ok (.getfield 37, 3) := by decide +kernel
theorem dX7_due_4 : decode prog_1_method_32_code 4 = .ok (.invokevirtual 290, 3) := by decide +kernel
theorem dX7_due_7 : decode prog_1_method_32_code 7 = .ok (.ireturn, 1) := by decide +kernel
theorem dX7_parted_0 : decode prog_1_method_39_code 0 = .ok (.aload_n 0, 1) := by decide +kernel
theorem dX7_parted_1 : decode prog_1_method_39_code 1 = .ok (.getfield 84, 3) := by decide +kernel
theorem dX7_parted_4 : decode prog_1_method_39_code 4 = .ok (.aload_n 0, 1) := by decide +kernel
theorem dX7_parted_5 : decode prog_1_method_39_code 5 = .ok (.getfield 37, 3) := by decide +kernel
theorem dX7_parted_8 : decode prog_1_method_39_code 8 = .ok (.getfield 147, 3) := by decide +kernel
theorem dX7_parted_11 : decode prog_1_method_39_code 11 = .ok (.invokevirtual 255, 3) := by decide +kernel
theorem dX7_parted_14 : decode prog_1_method_39_code 14 = .ok (.aload_n 0, 1) := by decide +kernel
theorem dX7_parted_15 : decode prog_1_method_39_code 15 = .ok (.getfield 37, 3) := by decide +kernel
theorem dX7_parted_18 : decode prog_1_method_39_code 18 = .ok (.getfield 147, 3) := by decide +kernel
theorem dX7_parted_21 : decode prog_1_method_39_code 21 = .ok (.aload_n 0, 1) := by decide +kernel
theorem dX7_parted_22 : decode prog_1_method_39_code 22 = .ok (.getfield 37, 3) := by decide +kernel
theorem dX7_parted_25 : decode prog_1_method_39_code 25 = .ok (.getfield 242, 3) := by decide +kernel
theorem dX7_parted_28 : decode prog_1_method_39_code 28 = .ok (.invokestatic 304, 3) := by decide +kernel
theorem dX7_parted_31 : decode prog_1_method_39_code 31 = .ok (.istore_n 2, 1) := by decide +kernel
theorem dX7_parted_32 : decode prog_1_method_39_code 32 = .ok (.iconst 0, 1) := by decide +kernel
theorem dX7_parted_33 : decode prog_1_method_39_code 33 = .ok (.istore_n 3, 1) := by decide +kernel
theorem dX7_parted_34 : decode prog_1_method_39_code 34 = .ok (.iload_n 2, 1) := by decide +kernel
theorem dX7_parted_35 : decode prog_1_method_39_code 35 = .ok (.istore 4, 2) := by decide +kernel
theorem dX7_parted_37 : decode prog_1_method_39_code 37 = .ok (.iconst 1, 1) := by decide +kernel
theorem dX7_parted_38 : decode prog_1_method_39_code 38 = .ok (.istore 5, 2) := by decide +kernel
theorem dX7_parted_40 : decode prog_1_method_39_code 40 = .ok (.iload 5, 2) := by decide +kernel
theorem dX7_parted_42 : decode prog_1_method_39_code 42 = .ok (.iconst 1, 1) := by decide +kernel
theorem dX7_parted_43 : decode prog_1_method_39_code 43 = .ok (.aload_n 0, 1) := by decide +kernel
theorem dX7_parted_44 : decode prog_1_method_39_code 44 = .ok (.getfield 37, 3) := by decide +kernel
theorem dX7_parted_47 : decode prog_1_method_39_code 47 = .ok (.getfield 242, 3) := by decide +kernel
theorem dX7_parted_50 : decode prog_1_method_39_code 50 = .ok (.ishl, 1) := by decide +kernel
theorem dX7_parted_51 : decode prog_1_method_39_code 51 = .ok (.if_icmp .ge 41, 3) := by decide +kernel
theorem dX7_parted_54 : decode prog_1_method_39_code 54 = .ok (.iload_n 2, 1) := by decide +kernel
theorem dX7_parted_55 : decode prog_1_method_39_code 55 = .ok (.iconst 2, 1) := by decide +kernel
theorem dX7_parted_56 : decode prog_1_method_39_code 56 = .ok (.aload_n 0, 1) := by decide +kernel
theorem dX7_parted_57 : decode prog_1_method_39_code 57 = .ok (.getfield 84, 3) := by decide +kernel
theorem dX7_parted_60 : decode prog_1_method_39_code 60 = .ok (.iload 5, 2) := by decide +kernel
theorem dX7_parted_62 : decode prog_1_method_39_code 62 = .ok (.invokevirtual 259, 3) := by decide +kernel
theorem dX7_parted_65 : decode prog_1_method_39_code 65 = .ok (.imul, 1) := by decide +kernel
theorem dX7_parted_66 : decode prog_1_method_39_code 66 = .ok (.isub, 1) := by decide +kernel
theorem dX7_parted_67 : decode prog_1_method_39_code 67 = .ok (.invokestatic 307, 3) := by decide +kernel
theorem dX7_parted_70 : decode prog_1_method_39_code 70 = .ok (.istore 6, 2) := by decide +kernel
theorem dX7_parted_72 : decode prog_1_method_39_code 72 = .ok (.iload 6, 2) := by decide +kernel
theorem dX7_parted_74 : decode prog_1_method_39_code 74 = .ok (.iload 4, 2) := by decide +kernel
theorem dX7_parted_76 : decode prog_1_method_39_code 76 = .ok (.if_icmp .ge 10, 3) := by decide +kernel
theorem dX7_parted_79 : decode prog_1_method_39_code 79 = .ok (.iload 5, 2) := by decide +kernel
theorem dX7_parted_81 : decode prog_1_method_39_code 81 = .ok (.istore_n 3, 1) := by decide +kernel
theorem dX7_parted_82 : decode prog_1_method_39_code 82 = .ok (.iload 6, 2) := by decide +kernel
theorem dX7_parted_84 : decode prog_1_method_39_code 84 = .ok (.istore 4, 2) := by decide +kernel
theorem dX7_parted_86 : decode prog_1_method_39_code 86 = .ok (.iinc 5 1, 3) := by decide +kernel
theorem dX7_parted_89 : decode prog_1_method_39_code 89 = .ok (.goto (-49), 3) := by decide +kernel
theorem dX7_parted_92 : decode prog_1_method_39_code 92 = .ok (.iload_n 1, 1) := by decide +kernel
theorem dX7_parted_93 : decode prog_1_method_39_code 93 = .ok (.ifCond .eq 7, 3) := by decide +kernel
theorem dX7_parted_96 : decode prog_1_method_39_code 96 = .ok (.iload_n 3, 1) := by decide +kernel
theorem dX7_parted_97 : decode prog_1_method_39_code 97 = .ok (.goto 5, 3) := by decide +kernel
theorem dX7_parted_100 : decode prog_1_method_39_code 100 = .ok (.iload 4, 2) := by decide +kernel
theorem dX7_parted_102 : decode prog_1_method_39_code 102 = .ok (.ireturn, 1) := by decide +kernel
theorem dX7_clash_0 : decode prog_1_method_40_code 0 = .ok (.iconst 0, 1) := by decide +kernel
theorem dX7_clash_1 : decode prog_1_method_40_code 1 = .ok (.istore_n 1, 1) := by decide +kernel
theorem dX7_clash_2 : decode prog_1_method_40_code 2 = .ok (.iconst 0, 1) := by decide +kernel
theorem dX7_clash_3 : decode prog_1_method_40_code 3 = .ok (.istore_n 2, 1) := by decide +kernel
theorem dX7_clash_4 : decode prog_1_method_40_code 4 = .ok (.iload_n 2, 1) := by decide +kernel
theorem dX7_clash_5 : decode prog_1_method_40_code 5 = .ok (.bipush 6, 2) := by decide +kernel
theorem dX7_clash_7 : decode prog_1_method_40_code 7 = .ok (.if_icmp .ge 47, 3) := by decide +kernel
theorem dX7_clash_10 : decode prog_1_method_40_code 10 = .ok (.aload_n 0, 1) := by decide +kernel
theorem dX7_clash_11 : decode prog_1_method_40_code 11 = .ok (.getfield 37, 3) := by decide +kernel
theorem dX7_clash_14 : decode prog_1_method_40_code 14 = .ok (.aload_n 0, 1) := by decide +kernel
theorem dX7_clash_15 : decode prog_1_method_40_code 15 = .ok (.getfield 37, 3) := by decide +kernel
theorem dX7_clash_18 : decode prog_1_method_40_code 18 = .ok (.getfield 141, 3) := by decide +kernel
theorem dX7_clash_21 : decode prog_1_method_40_code 21 = .ok (.iload_n 2, 1) := by decide +kernel
theorem dX7_clash_22 : decode prog_1_method_40_code 22 = .ok (.invokevirtual 179, 3) := by decide +kernel
theorem dX7_clash_25 : decode prog_1_method_40_code 25 = .ok (.invokestatic 227, 3) := by decide +kernel
theorem dX7_clash_28 : decode prog_1_method_40_code 28 = .ok (.aload_n 0, 1) := by decide +kernel
theorem dX7_clash_29 : decode prog_1_method_40_code 29 = .ok (.getfield 37, 3) := by decide +kernel
theorem dX7_clash_32 : decode prog_1_method_40_code 32 = .ok (.getfield 176, 3) := by decide +kernel
theorem dX7_clash_35 : decode prog_1_method_40_code 35 = .ok (.iload_n 2, 1) := by decide +kernel
theorem dX7_clash_36 : decode prog_1_method_40_code 36 = .ok (.invokestatic 137, 3) := by decide +kernel
theorem dX7_clash_39 : decode prog_1_method_40_code 39 = .ok (.if_icmp .le 9, 3) := by decide +kernel
theorem dX7_clash_42 : decode prog_1_method_40_code 42 = .ok (.iload_n 1, 1) := by decide +kernel
theorem dX7_clash_43 : decode prog_1_method_40_code 43 = .ok (.iconst 1, 1) := by decide +kernel
theorem dX7_clash_44 : decode prog_1_method_40_code 44 = .ok (.iload_n 2, 1) := by decide +kernel
theorem dX7_clash_45 : decode prog_1_method_40_code 45 = .ok (.ishl, 1) := by decide +kernel
theorem dX7_clash_46 : decode prog_1_method_40_code 46 = .ok (.ior, 1) := by decide +kernel
theorem dX7_clash_47 : decode prog_1_method_40_code 47 = .ok (.istore_n 1, 1) := by decide +kernel
theorem dX7_clash_48 : decode prog_1_method_40_code 48 = .ok (.iinc 2 1, 3) := by decide +kernel
theorem dX7_clash_51 : decode prog_1_method_40_code 51 = .ok (.goto (-47), 3) := by decide +kernel
theorem dX7_clash_54 : decode prog_1_method_40_code 54 = .ok (.iload_n 1, 1) := by decide +kernel
theorem dX7_clash_55 : decode prog_1_method_40_code 55 = .ok (.ireturn, 1) := by decide +kernel
theorem dX7_full_0 : decode prog_1_method_41_code 0 = .ok (.iconst 0, 1) := by decide +kernel
theorem dX7_full_1 : decode prog_1_method_41_code 1 = .ok (.istore_n 1, 1) := by decide +kernel
theorem dX7_full_2 : decode prog_1_method_41_code 2 = .ok (.iconst 0, 1) := by decide +kernel
theorem dX7_full_3 : decode prog_1_method_41_code 3 = .ok (.istore_n 2, 1) := by decide +kernel
theorem dX7_full_4 : decode prog_1_method_41_code 4 = .ok (.iload_n 2, 1) := by decide +kernel
theorem dX7_full_5 : decode prog_1_method_41_code 5 = .ok (.bipush 6, 2) := by decide +kernel
theorem dX7_full_7 : decode prog_1_method_41_code 7 = .ok (.if_icmp .ge 47, 3) := by decide +kernel
theorem dX7_full_10 : decode prog_1_method_41_code 10 = .ok (.aload_n 0, 1) := by decide +kernel
theorem dX7_full_11 : decode prog_1_method_41_code 11 = .ok (.getfield 37, 3) := by decide +kernel
theorem dX7_full_14 : decode prog_1_method_41_code 14 = .ok (.aload_n 0, 1) := by decide +kernel
theorem dX7_full_15 : decode prog_1_method_41_code 15 = .ok (.getfield 37, 3) := by decide +kernel
theorem dX7_full_18 : decode prog_1_method_41_code 18 = .ok (.getfield 134, 3) := by decide +kernel
theorem dX7_full_21 : decode prog_1_method_41_code 21 = .ok (.iload_n 2, 1) := by decide +kernel
theorem dX7_full_22 : decode prog_1_method_41_code 22 = .ok (.invokevirtual 179, 3) := by decide +kernel
theorem dX7_full_25 : decode prog_1_method_41_code 25 = .ok (.invokestatic 227, 3) := by decide +kernel
theorem dX7_full_28 : decode prog_1_method_41_code 28 = .ok (.aload_n 0, 1) := by decide +kernel
theorem dX7_full_29 : decode prog_1_method_41_code 29 = .ok (.getfield 37, 3) := by decide +kernel
theorem dX7_full_32 : decode prog_1_method_41_code 32 = .ok (.getfield 176, 3) := by decide +kernel
theorem dX7_full_35 : decode prog_1_method_41_code 35 = .ok (.iload_n 2, 1) := by decide +kernel
theorem dX7_full_36 : decode prog_1_method_41_code 36 = .ok (.invokestatic 137, 3) := by decide +kernel
theorem dX7_full_39 : decode prog_1_method_41_code 39 = .ok (.if_icmp .lt 9, 3) := by decide +kernel
theorem dX7_full_42 : decode prog_1_method_41_code 42 = .ok (.iload_n 1, 1) := by decide +kernel
theorem dX7_full_43 : decode prog_1_method_41_code 43 = .ok (.iconst 1, 1) := by decide +kernel
theorem dX7_full_44 : decode prog_1_method_41_code 44 = .ok (.iload_n 2, 1) := by decide +kernel
theorem dX7_full_45 : decode prog_1_method_41_code 45 = .ok (.ishl, 1) := by decide +kernel
theorem dX7_full_46 : decode prog_1_method_41_code 46 = .ok (.ior, 1) := by decide +kernel
theorem dX7_full_47 : decode prog_1_method_41_code 47 = .ok (.istore_n 1, 1) := by decide +kernel
theorem dX7_full_48 : decode prog_1_method_41_code 48 = .ok (.iinc 2 1, 3) := by decide +kernel
theorem dX7_full_51 : decode prog_1_method_41_code 51 = .ok (.goto (-47), 3) := by decide +kernel
theorem dX7_full_54 : decode prog_1_method_41_code 54 = .ok (.iload_n 1, 1) := by decide +kernel
theorem dX7_full_55 : decode prog_1_method_41_code 55 = .ok (.ireturn, 1) := by decide +kernel
theorem dX7_settles_0 : decode prog_1_method_42_code 0 = .ok (.aload_n 0, 1) := by decide +kernel
theorem dX7_settles_1 : decode prog_1_method_42_code 1 = .ok (.getfield 37, 3) := by decide +kernel
theorem dX7_settles_4 : decode prog_1_method_42_code 4 = .ok (.getfield 188, 3) := by decide +kernel
theorem dX7_settles_7 : decode prog_1_method_42_code 7 = .ok (.iconst 0, 1) := by decide +kernel
theorem dX7_settles_8 : decode prog_1_method_42_code 8 = .ok (.invokestatic 137, 3) := by decide +kernel
theorem dX7_settles_11 : decode prog_1_method_42_code 11 = .ok (.aload_n 0, 1) := by decide +kernel
theorem dX7_settles_12 : decode prog_1_method_42_code 12 = .ok (.getfield 37, 3) := by decide +kernel
theorem dX7_settles_15 : decode prog_1_method_42_code 15 = .ok (.getfield 188, 3) := by decide +kernel
theorem dX7_settles_18 : decode prog_1_method_42_code 18 = .ok (.iconst 1, 1) := by decide +kernel
theorem dX7_settles_19 : decode prog_1_method_42_code 19 = .ok (.invokestatic 137, 3) := by decide +kernel
theorem dX7_settles_22 : decode prog_1_method_42_code 22 = .ok (.isub, 1) := by decide +kernel
theorem dX7_settles_23 : decode prog_1_method_42_code 23 = .ok (.ireturn, 1) := by decide +kernel
theorem dX7_richest_0 : decode prog_1_method_43_code 0 = .ok (.iconst 0, 1) := by decide +kernel
theorem dX7_richest_1 : decode prog_1_method_43_code 1 = .ok (.istore_n 1, 1) := by decide +kernel
theorem dX7_richest_2 : decode prog_1_method_43_code 2 = .ok (.iconst 0, 1) := by decide +kernel
theorem dX7_richest_3 : decode prog_1_method_43_code 3 = .ok (.istore_n 2, 1) := by decide +kernel
theorem dX7_richest_4 : decode prog_1_method_43_code 4 = .ok (.iconst 0, 1) := by decide +kernel
theorem dX7_richest_5 : decode prog_1_method_43_code 5 = .ok (.istore_n 3, 1) := by decide +kernel
theorem dX7_richest_6 : decode prog_1_method_43_code 6 = .ok (.iload_n 3, 1) := by decide +kernel
theorem dX7_richest_7 : decode prog_1_method_43_code 7 = .ok (.bipush 6, 2) := by decide +kernel
theorem dX7_richest_9 : decode prog_1_method_43_code 9 = .ok (.if_icmp .ge 30, 3) := by decide +kernel
theorem dX7_richest_12 : decode prog_1_method_43_code 12 = .ok (.aload_n 0, 1) := by decide +kernel
theorem dX7_richest_13 : decode prog_1_method_43_code 13 = .ok (.getfield 37, 3) := by decide +kernel
theorem dX7_richest_16 : decode prog_1_method_43_code 16 = .ok (.iload_n 3, 1) := by decide +kernel
theorem dX7_richest_17 : decode prog_1_method_43_code 17 = .ok (.invokevirtual 310, 3) := by decide +kernel
theorem dX7_richest_20 : decode prog_1_method_43_code 20 = .ok (.istore 4, 2) := by decide +kernel
theorem dX7_richest_22 : decode prog_1_method_43_code 22 = .ok (.iload 4, 2) := by decide +kernel
theorem dX7_richest_24 : decode prog_1_method_43_code 24 = .ok (.iload_n 2, 1) := by decide +kernel
theorem dX7_richest_25 : decode prog_1_method_43_code 25 = .ok (.if_icmp .le 8, 3) := by decide +kernel
theorem dX7_richest_28 : decode prog_1_method_43_code 28 = .ok (.iload_n 3, 1) := by decide +kernel
theorem dX7_richest_29 : decode prog_1_method_43_code 29 = .ok (.istore_n 1, 1) := by decide +kernel
theorem dX7_richest_30 : decode prog_1_method_43_code 30 = .ok (.iload 4, 2) := by decide +kernel
theorem dX7_richest_32 : decode prog_1_method_43_code 32 = .ok (.istore_n 2, 1) := by decide +kernel
theorem dX7_richest_33 : decode prog_1_method_43_code 33 = .ok (.iinc 3 1, 3) := by decide +kernel
theorem dX7_richest_36 : decode prog_1_method_43_code 36 = .ok (.goto (-30), 3) := by decide +kernel
theorem dX7_richest_39 : decode prog_1_method_43_code 39 = .ok (.iload_n 1, 1) := by decide +kernel
theorem dX7_richest_40 : decode prog_1_method_43_code 40 = .ok (.ireturn, 1) := by decide +kernel
theorem dX7_like_0 : decode prog_1_method_46_code 0 = .ok (.aload_n 0, 1) := by decide +kernel
theorem dX7_like_1 : decode prog_1_method_46_code 1 = .ok (.getfield 54, 3) := by decide +kernel
theorem dX7_like_4 : decode prog_1_method_46_code 4 = .ok (.ifCond .ne 5, 3) := by decide +kernel
theorem dX7_like_7 : decode prog_1_method_46_code 7 = .ok (.iconst (-1), 1) := by decide +kernel
theorem dX7_like_8 : decode prog_1_method_46_code 8 = .ok (.ireturn, 1) := by decide +kernel
theorem dX7_like_9 : decode prog_1_method_46_code 9 = .ok (.iconst 0, 1) := by decide +kernel
theorem dX7_like_10 : decode prog_1_method_46_code 10 = .ok (.istore_n 1, 1) := by decide +kernel
theorem dX7_like_11 : decode prog_1_method_46_code 11 = .ok (.iconst 0, 1) := by decide +kernel
theorem dX7_like_12 : decode prog_1_method_46_code 12 = .ok (.istore_n 2, 1) := by decide +kernel
theorem dX7_like_13 : decode prog_1_method_46_code 13 = .ok (.iload_n 2, 1) := by decide +kernel
theorem dX7_like_14 : decode prog_1_method_46_code 14 = .ok (.aload_n 0, 1) := by decide +kernel
theorem dX7_like_15 : decode prog_1_method_46_code 15 = .ok (.getfield 37, 3) := by decide +kernel
theorem dX7_like_18 : decode prog_1_method_46_code 18 = .ok (.getfield 242, 3) := by decide +kernel
theorem dX7_like_21 : decode prog_1_method_46_code 21 = .ok (.if_icmp .ge 73, 3) := by decide +kernel
theorem dX7_like_24 : decode prog_1_method_46_code 24 = .ok (.iload_n 2, 1) := by decide +kernel
theorem dX7_like_25 : decode prog_1_method_46_code 25 = .ok (.aload_n 0, 1) := by decide +kernel
theorem dX7_like_26 : decode prog_1_method_46_code 26 = .ok (.getfield 58, 3) := by decide +kernel
theorem dX7_like_29 : decode prog_1_method_46_code 29 = .ok (.getfield 242, 3) := by decide +kernel
theorem dX7_like_32 : decode prog_1_method_46_code 32 = .ok (.if_icmp .ge 62, 3) := by decide +kernel
theorem dX7_like_35 : decode prog_1_method_46_code 35 = .ok (.aload_n 0, 1) := by decide +kernel
theorem dX7_like_36 : decode prog_1_method_46_code 36 = .ok (.getfield 37, 3) := by decide +kernel
theorem dX7_like_39 : decode prog_1_method_46_code 39 = .ok (.getfield 134, 3) := by decide +kernel
theorem dX7_like_42 : decode prog_1_method_46_code 42 = .ok (.iload_n 2, 1) := by decide +kernel
theorem dX7_like_43 : decode prog_1_method_46_code 43 = .ok (.invokestatic 137, 3) := by decide +kernel
theorem dX7_like_46 : decode prog_1_method_46_code 46 = .ok (.aload_n 0, 1) := by decide +kernel
theorem dX7_like_47 : decode prog_1_method_46_code 47 = .ok (.getfield 58, 3) := by decide +kernel
theorem dX7_like_50 : decode prog_1_method_46_code 50 = .ok (.getfield 134, 3) := by decide +kernel
theorem dX7_like_53 : decode prog_1_method_46_code 53 = .ok (.iload_n 2, 1) := by decide +kernel
theorem dX7_like_54 : decode prog_1_method_46_code 54 = .ok (.invokestatic 137, 3) := by decide +kernel
theorem dX7_like_57 : decode prog_1_method_46_code 57 = .ok (.if_icmp .ne 31, 3) := by decide +kernel
theorem dX7_like_60 : decode prog_1_method_46_code 60 = .ok (.aload_n 0, 1) := by decide +kernel
theorem dX7_like_61 : decode prog_1_method_46_code 61 = .ok (.getfield 37, 3) := by decide +kernel
theorem dX7_like_64 : decode prog_1_method_46_code 64 = .ok (.getfield 144, 3) := by decide +kernel
theorem dX7_like_67 : decode prog_1_method_46_code 67 = .ok (.iload_n 2, 1) := by decide +kernel
theorem dX7_like_68 : decode prog_1_method_46_code 68 = .ok (.invokestatic 137, 3) := by decide +kernel
theorem dX7_like_71 : decode prog_1_method_46_code 71 = .ok (.aload_n 0, 1) := by decide +kernel
theorem dX7_like_72 : decode prog_1_method_46_code 72 = .ok (.getfield 58, 3) := by decide +kernel
theorem dX7_like_75 : decode prog_1_method_46_code 75 = .ok (.getfield 144, 3) := by decide +kernel
theorem dX7_like_78 : decode prog_1_method_46_code 78 = .ok (.iload_n 2, 1) := by decide +kernel
theorem dX7_like_79 : decode prog_1_method_46_code 79 = .ok (.invokestatic 137, 3) := by decide +kernel
theorem dX7_like_82 : decode prog_1_method_46_code 82 = .ok (.if_icmp .ne 6, 3) := by decide +kernel
theorem dX7_like_85 : decode prog_1_method_46_code 85 = .ok (.iinc 1 1, 3) := by decide +kernel
theorem dX7_like_88 : decode prog_1_method_46_code 88 = .ok (.iinc 2 1, 3) := by decide +kernel
theorem dX7_like_91 : decode prog_1_method_46_code 91 = .ok (.goto (-78), 3) := by decide +kernel
theorem dX7_like_94 : decode prog_1_method_46_code 94 = .ok (.iload_n 1, 1) := by decide +kernel
theorem dX7_like_95 : decode prog_1_method_46_code 95 = .ok (.ireturn, 1) := by decide +kernel
theorem dX7_seed_0 : decode prog_1_method_51_code 0 = .ok (.aload_n 0, 1) := by decide +kernel
theorem dX7_seed_1 : decode prog_1_method_51_code 1 = .ok (.getfield 37, 3) := by decide +kernel
theorem dX7_seed_4 : decode prog_1_method_51_code 4 = .ok (.getfield 326, 3) := by decide +kernel
theorem dX7_seed_7 : decode prog_1_method_51_code 7 = .ok (.istore_n 2, 1) := by decide +kernel
theorem dX7_seed_8 : decode prog_1_method_51_code 8 = .ok (.aload_n 0, 1) := by decide +kernel
theorem dX7_seed_9 : decode prog_1_method_51_code 9 = .ok (.getfield 37, 3) := by decide +kernel
theorem dX7_seed_12 : decode prog_1_method_51_code 12 = .ok (.iload_n 1, 1) := by decide +kernel
theorem dX7_seed_13 : decode prog_1_method_51_code 13 = .ok (.putfield 326, 3) := by decide +kernel
theorem dX7_seed_16 : decode prog_1_method_51_code 16 = .ok (.iload_n 2, 1) := by decide +kernel
theorem dX7_seed_17 : decode prog_1_method_51_code 17 = .ok (.ireturn, 1) := by decide +kernel
theorem dX7_undo_0 : decode prog_1_method_52_code 0 = .ok (.aload_n 0, 1) := by decide +kernel
theorem dX7_undo_1 : decode prog_1_method_52_code 1 = .ok (.getfield 71, 3) := by decide +kernel
theorem dX7_undo_4 : decode prog_1_method_52_code 4 = .ok (.ifCond .le 22, 3) := by decide +kernel
theorem dX7_undo_7 : decode prog_1_method_52_code 7 = .ok (.aload_n 0, 1) := by decide +kernel
theorem dX7_undo_8 : decode prog_1_method_52_code 8 = .ok (.getfield 68, 3) := by decide +kernel
theorem dX7_undo_11 : decode prog_1_method_52_code 11 = .ok (.ifCond .lt 15, 3) := by decide +kernel
theorem dX7_undo_14 : decode prog_1_method_52_code 14 = .ok (.aload_n 0, 1) := by decide +kernel
theorem dX7_undo_15 : decode prog_1_method_52_code 15 = .ok (.getfield 68, 3) := by decide +kernel
theorem dX7_undo_18 : decode prog_1_method_52_code 18 = .ok (.aload_n 0, 1) := by decide +kernel
theorem dX7_undo_19 : decode prog_1_method_52_code 19 = .ok (.getfield 64, 3) := by decide +kernel
theorem dX7_undo_22 : decode prog_1_method_52_code 22 = .ok (.arraylength, 1) := by decide +kernel
theorem dX7_undo_23 : decode prog_1_method_52_code 23 = .ok (.if_icmp .lt 5, 3) := by decide +kernel
theorem dX7_undo_26 : decode prog_1_method_52_code 26 = .ok (.iconst 0, 1) := by decide +kernel
theorem dX7_undo_27 : decode prog_1_method_52_code 27 = .ok (.ireturn, 1) := by decide +kernel
theorem dX7_undo_28 : decode prog_1_method_52_code 28 = .ok (.aload_n 0, 1) := by decide +kernel
theorem dX7_undo_29 : decode prog_1_method_52_code 29 = .ok (.getfield 37, 3) := by decide +kernel
theorem dX7_undo_32 : decode prog_1_method_52_code 32 = .ok (.aload_n 0, 1) := by decide +kernel
theorem dX7_undo_33 : decode prog_1_method_52_code 33 = .ok (.getfield 64, 3) := by decide +kernel
theorem dX7_undo_36 : decode prog_1_method_52_code 36 = .ok (.aload_n 0, 1) := by decide +kernel
theorem dX7_undo_37 : decode prog_1_method_52_code 37 = .ok (.getfield 68, 3) := by decide +kernel
theorem dX7_undo_40 : decode prog_1_method_52_code 40 = .ok (.aaload, 1) := by decide +kernel
theorem dX7_undo_41 : decode prog_1_method_52_code 41 = .ok (.invokevirtual 94, 3) := by decide +kernel
theorem dX7_undo_44 : decode prog_1_method_52_code 44 = .ok (.aload_n 0, 1) := by decide +kernel
theorem dX7_undo_45 : decode prog_1_method_52_code 45 = .ok (.aload_n 0, 1) := by decide +kernel
theorem dX7_undo_46 : decode prog_1_method_52_code 46 = .ok (.getfield 68, 3) := by decide +kernel
theorem dX7_undo_49 : decode prog_1_method_52_code 49 = .ok (.ifCond .ne 8, 3) := by decide +kernel
theorem dX7_undo_52 : decode prog_1_method_52_code 52 = .ok (.bipush 11, 2) := by decide +kernel
theorem dX7_undo_54 : decode prog_1_method_52_code 54 = .ok (.goto 9, 3) := by decide +kernel
theorem dX7_undo_57 : decode prog_1_method_52_code 57 = .ok (.aload_n 0, 1) := by decide +kernel
theorem dX7_undo_58 : decode prog_1_method_52_code 58 = .ok (.getfield 68, 3) := by decide +kernel
theorem dX7_undo_61 : decode prog_1_method_52_code 61 = .ok (.iconst 1, 1) := by decide +kernel
theorem dX7_undo_62 : decode prog_1_method_52_code 62 = .ok (.isub, 1) := by decide +kernel
theorem dX7_undo_63 : decode prog_1_method_52_code 63 = .ok (.putfield 68, 3) := by decide +kernel
theorem dX7_undo_66 : decode prog_1_method_52_code 66 = .ok (.aload_n 0, 1) := by decide +kernel
theorem dX7_undo_67 : decode prog_1_method_52_code 67 = .ok (.dup, 1) := by decide +kernel
theorem dX7_undo_68 : decode prog_1_method_52_code 68 = .ok (.getfield 71, 3) := by decide +kernel
theorem dX7_undo_71 : decode prog_1_method_52_code 71 = .ok (.iconst 1, 1) := by decide +kernel
theorem dX7_undo_72 : decode prog_1_method_52_code 72 = .ok (.isub, 1) := by decide +kernel
theorem dX7_undo_73 : decode prog_1_method_52_code 73 = .ok (.putfield 71, 3) := by decide +kernel
theorem dX7_undo_76 : decode prog_1_method_52_code 76 = .ok (.iconst 1, 1) := by decide +kernel
theorem dX7_undo_77 : decode prog_1_method_52_code 77 = .ok (.ireturn, 1) := by decide +kernel
theorem dX7_image_0 : decode prog_1_method_53_code 0 = .ok (.aload_n 0, 1) := by decide +kernel
theorem dX7_image_1 : decode prog_1_method_53_code 1 = .ok (.getfield 58, 3) := by decide +kernel
theorem dX7_image_4 : decode prog_1_method_53_code 4 = .ok (.aload_n 0, 1) := by decide +kernel
theorem dX7_image_5 : decode prog_1_method_53_code 5 = .ok (.getfield 37, 3) := by decide +kernel
theorem dX7_image_8 : decode prog_1_method_53_code 8 = .ok (.invokevirtual 94, 3) := by decide +kernel
theorem dX7_image_11 : decode prog_1_method_53_code 11 = .ok (.aload_n 0, 1) := by decide +kernel
theorem dX7_image_12 : decode prog_1_method_53_code 12 = .ok (.getfield 61, 3) := by decide +kernel
theorem dX7_image_15 : decode prog_1_method_53_code 15 = .ok (.aload_n 0, 1) := by decide +kernel
theorem dX7_image_16 : decode prog_1_method_53_code 16 = .ok (.getfield 47, 3) := by decide +kernel
theorem dX7_image_19 : decode prog_1_method_53_code 19 = .ok (.invokevirtual 347, 3) := by decide +kernel
theorem dX7_image_22 : decode prog_1_method_53_code 22 = .ok (.aload_n 0, 1) := by decide +kernel
theorem dX7_image_23 : decode prog_1_method_53_code 23 = .ok (.iconst 1, 1) := by decide +kernel
theorem dX7_image_24 : decode prog_1_method_53_code 24 = .ok (.putfield 54, 3) := by decide +kernel
theorem dX7_image_27 : decode prog_1_method_53_code 27 = .ok (.return_, 1) := by decide +kernel
theorem dX7_back_0 : decode prog_1_method_54_code 0 = .ok (.aload_n 0, 1) := by decide +kernel
theorem dX7_back_1 : decode prog_1_method_54_code 1 = .ok (.getfield 54, 3) := by decide +kernel
theorem dX7_back_4 : decode prog_1_method_54_code 4 = .ok (.ifCond .ne 5, 3) := by decide +kernel
theorem dX7_back_7 : decode prog_1_method_54_code 7 = .ok (.iconst 0, 1) := by decide +kernel
theorem dX7_back_8 : decode prog_1_method_54_code 8 = .ok (.ireturn, 1) := by decide +kernel
theorem dX7_back_9 : decode prog_1_method_54_code 9 = .ok (.aload_n 0, 1) := by decide +kernel
theorem dX7_back_10 : decode prog_1_method_54_code 10 = .ok (.getfield 37, 3) := by decide +kernel
theorem dX7_back_13 : decode prog_1_method_54_code 13 = .ok (.aload_n 0, 1) := by decide +kernel
theorem dX7_back_14 : decode prog_1_method_54_code 14 = .ok (.getfield 58, 3) := by decide +kernel
theorem dX7_back_17 : decode prog_1_method_54_code 17 = .ok (.invokevirtual 94, 3) := by decide +kernel
theorem dX7_back_20 : decode prog_1_method_54_code 20 = .ok (.aload_n 0, 1) := by decide +kernel
theorem dX7_back_21 : decode prog_1_method_54_code 21 = .ok (.getfield 47, 3) := by decide +kernel
theorem dX7_back_24 : decode prog_1_method_54_code 24 = .ok (.aload_n 0, 1) := by decide +kernel
theorem dX7_back_25 : decode prog_1_method_54_code 25 = .ok (.getfield 61, 3) := by decide +kernel
theorem dX7_back_28 : decode prog_1_method_54_code 28 = .ok (.invokevirtual 347, 3) := by decide +kernel
theorem dX7_back_31 : decode prog_1_method_54_code 31 = .ok (.aload_n 0, 1) := by decide +kernel
theorem dX7_back_32 : decode prog_1_method_54_code 32 = .ok (.iconst 0, 1) := by decide +kernel
theorem dX7_back_33 : decode prog_1_method_54_code 33 = .ok (.putfield 71, 3) := by decide +kernel
theorem dX7_back_36 : decode prog_1_method_54_code 36 = .ok (.iconst 1, 1) := by decide +kernel
theorem dX7_back_37 : decode prog_1_method_54_code 37 = .ok (.ireturn, 1) := by decide +kernel
theorem dX7_count_0 : decode prog_1_method_55_code 0 = .ok (.iload_n 1, 1) := by decide +kernel
theorem dX7_count_1 : decode prog_1_method_55_code 1 = .ok (.tableswitch 184 0 11 #[63, 71, 79, 87, 95, 103, 111, 124, 132, 150, 168, 179], 63) := by decide +kernel
theorem dX7_count_64 : decode prog_1_method_55_code 64 = .ok (.aload_n 0, 1) := by decide +kernel
theorem dX7_count_65 : decode prog_1_method_55_code 65 = .ok (.getfield 37, 3) := by decide +kernel
theorem dX7_count_68 : decode prog_1_method_55_code 68 = .ok (.getfield 242, 3) := by decide +kernel
theorem dX7_count_71 : decode prog_1_method_55_code 71 = .ok (.ireturn, 1) := by decide +kernel
theorem dX7_count_72 : decode prog_1_method_55_code 72 = .ok (.aload_n 0, 1) := by decide +kernel
theorem dX7_count_73 : decode prog_1_method_55_code 73 = .ok (.getfield 37, 3) := by decide +kernel
theorem dX7_count_76 : decode prog_1_method_55_code 76 = .ok (.getfield 113, 3) := by decide +kernel
theorem dX7_count_79 : decode prog_1_method_55_code 79 = .ok (.ireturn, 1) := by decide +kernel
theorem dX7_count_80 : decode prog_1_method_55_code 80 = .ok (.aload_n 0, 1) := by decide +kernel
theorem dX7_count_81 : decode prog_1_method_55_code 81 = .ok (.getfield 47, 3) := by decide +kernel
theorem dX7_count_84 : decode prog_1_method_55_code 84 = .ok (.getfield 124, 3) := by decide +kernel
theorem dX7_count_87 : decode prog_1_method_55_code 87 = .ok (.ireturn, 1) := by decide +kernel
theorem dX7_count_88 : decode prog_1_method_55_code 88 = .ok (.aload_n 0, 1) := by decide +kernel
theorem dX7_count_89 : decode prog_1_method_55_code 89 = .ok (.getfield 37, 3) := by decide +kernel
theorem dX7_count_92 : decode prog_1_method_55_code 92 = .ok (.getfield 350, 3) := by decide +kernel
theorem dX7_count_95 : decode prog_1_method_55_code 95 = .ok (.ireturn, 1) := by decide +kernel
theorem dX7_count_96 : decode prog_1_method_55_code 96 = .ok (.aload_n 0, 1) := by decide +kernel
theorem dX7_count_97 : decode prog_1_method_55_code 97 = .ok (.getfield 37, 3) := by decide +kernel
theorem dX7_count_100 : decode prog_1_method_55_code 100 = .ok (.invokevirtual 353, 3) := by decide +kernel
theorem dX7_count_103 : decode prog_1_method_55_code 103 = .ok (.ireturn, 1) := by decide +kernel
theorem dX7_count_104 : decode prog_1_method_55_code 104 = .ok (.aload_n 0, 1) := by decide +kernel
theorem dX7_count_105 : decode prog_1_method_55_code 105 = .ok (.getfield 37, 3) := by decide +kernel
theorem dX7_count_108 : decode prog_1_method_55_code 108 = .ok (.getfield 271, 3) := by decide +kernel
theorem dX7_count_111 : decode prog_1_method_55_code 111 = .ok (.ireturn, 1) := by decide +kernel
theorem dX7_count_112 : decode prog_1_method_55_code 112 = .ok (.aload_n 0, 1) := by decide +kernel
theorem dX7_count_113 : decode prog_1_method_55_code 113 = .ok (.getfield 37, 3) := by decide +kernel
theorem dX7_count_116 : decode prog_1_method_55_code 116 = .ok (.getfield 173, 3) := by decide +kernel
theorem dX7_count_119 : decode prog_1_method_55_code 119 = .ok (.bipush 6, 2) := by decide +kernel
theorem dX7_count_121 : decode prog_1_method_55_code 121 = .ok (.invokestatic 304, 3) := by decide +kernel
theorem dX7_count_124 : decode prog_1_method_55_code 124 = .ok (.ireturn, 1) := by decide +kernel
theorem dX7_count_125 : decode prog_1_method_55_code 125 = .ok (.aload_n 0, 1) := by decide +kernel
theorem dX7_count_126 : decode prog_1_method_55_code 126 = .ok (.getfield 37, 3) := by decide +kernel
theorem dX7_count_129 : decode prog_1_method_55_code 129 = .ok (.getfield 356, 3) := by decide +kernel
theorem dX7_count_132 : decode prog_1_method_55_code 132 = .ok (.ireturn, 1) := by decide +kernel
theorem dX7_count_133 : decode prog_1_method_55_code 133 = .ok (.aload_n 0, 1) := by decide +kernel
theorem dX7_count_134 : decode prog_1_method_55_code 134 = .ok (.getfield 37, 3) := by decide +kernel
theorem dX7_count_137 : decode prog_1_method_55_code 137 = .ok (.getfield 144, 3) := by decide +kernel
theorem dX7_count_140 : decode prog_1_method_55_code 140 = .ok (.aload_n 0, 1) := by decide +kernel
theorem dX7_count_141 : decode prog_1_method_55_code 141 = .ok (.getfield 37, 3) := by decide +kernel
theorem dX7_count_144 : decode prog_1_method_55_code 144 = .ok (.getfield 242, 3) := by decide +kernel
theorem dX7_count_147 : decode prog_1_method_55_code 147 = .ok (.invokestatic 304, 3) := by decide +kernel
theorem dX7_count_150 : decode prog_1_method_55_code 150 = .ok (.ireturn, 1) := by decide +kernel
theorem dX7_count_151 : decode prog_1_method_55_code 151 = .ok (.aload_n 0, 1) := by decide +kernel
theorem dX7_count_152 : decode prog_1_method_55_code 152 = .ok (.getfield 37, 3) := by decide +kernel
theorem dX7_count_155 : decode prog_1_method_55_code 155 = .ok (.getfield 147, 3) := by decide +kernel
theorem dX7_count_158 : decode prog_1_method_55_code 158 = .ok (.aload_n 0, 1) := by decide +kernel
theorem dX7_count_159 : decode prog_1_method_55_code 159 = .ok (.getfield 37, 3) := by decide +kernel
theorem dX7_count_162 : decode prog_1_method_55_code 162 = .ok (.getfield 242, 3) := by decide +kernel
theorem dX7_count_165 : decode prog_1_method_55_code 165 = .ok (.invokestatic 304, 3) := by decide +kernel
theorem dX7_count_168 : decode prog_1_method_55_code 168 = .ok (.ireturn, 1) := by decide +kernel
theorem dX7_count_169 : decode prog_1_method_55_code 169 = .ok (.aload_n 0, 1) := by decide +kernel
theorem dX7_count_170 : decode prog_1_method_55_code 170 = .ok (.getfield 37, 3) := by decide +kernel
theorem dX7_count_173 : decode prog_1_method_55_code 173 = .ok (.getfield 335, 3) := by decide +kernel
theorem dX7_count_176 : decode prog_1_method_55_code 176 = .ok (.getfield 339, 3) := by decide +kernel
theorem dX7_count_179 : decode prog_1_method_55_code 179 = .ok (.ireturn, 1) := by decide +kernel
theorem dX7_count_180 : decode prog_1_method_55_code 180 = .ok (.aload_n 0, 1) := by decide +kernel
theorem dX7_count_181 : decode prog_1_method_55_code 181 = .ok (.getfield 71, 3) := by decide +kernel
theorem dX7_count_184 : decode prog_1_method_55_code 184 = .ok (.ireturn, 1) := by decide +kernel
theorem dX7_count_185 : decode prog_1_method_55_code 185 = .ok (.iconst (-1), 1) := by decide +kernel
theorem dX7_count_186 : decode prog_1_method_55_code 186 = .ok (.ireturn, 1) := by decide +kernel
theorem dX7_deed_0 : decode prog_1_method_4_code 0 = .ok (.aload_n 0, 1) := by decide +kernel
theorem dX7_deed_1 : decode prog_1_method_4_code 1 = .ok (.getfield 41, 3) := by decide +kernel
theorem dX7_deed_4 : decode prog_1_method_4_code 4 = .ok (.aload_n 0, 1) := by decide +kernel
theorem dX7_deed_5 : decode prog_1_method_4_code 5 = .ok (.getfield 37, 3) := by decide +kernel
theorem dX7_deed_8 : decode prog_1_method_4_code 8 = .ok (.invokevirtual 94, 3) := by decide +kernel
theorem dX7_deed_11 : decode prog_1_method_4_code 11 = .ok (.aload_n 0, 1) := by decide +kernel
theorem dX7_deed_12 : decode prog_1_method_4_code 12 = .ok (.aload_n 0, 1) := by decide +kernel
theorem dX7_deed_13 : decode prog_1_method_4_code 13 = .ok (.getfield 20, 3) := by decide +kernel
theorem dX7_deed_16 : decode prog_1_method_4_code 16 = .ok (.aload_n 0, 1) := by decide +kernel
theorem dX7_deed_17 : decode prog_1_method_4_code 17 = .ok (.getfield 9, 3) := by decide +kernel
theorem dX7_deed_20 : decode prog_1_method_4_code 20 = .ok (.aload_n 0, 1) := by decide +kernel
theorem dX7_deed_21 : decode prog_1_method_4_code 21 = .ok (.invokevirtual 98, 3) := by decide +kernel
theorem dX7_deed_24 : decode prog_1_method_4_code 24 = .ok (.aload_n 0, 1) := by decide +kernel
theorem dX7_deed_25 : decode prog_1_method_4_code 25 = .ok (.getfield 41, 3) := by decide +kernel
theorem dX7_deed_28 : decode prog_1_method_4_code 28 = .ok (.invokevirtual 102, 3) := by decide +kernel
theorem dX7_deed_31 : decode prog_1_method_4_code 31 = .ok (.putfield 31, 3) := by decide +kernel
theorem dX7_deed_34 : decode prog_1_method_4_code 34 = .ok (.aload_n 0, 1) := by decide +kernel
theorem dX7_deed_35 : decode prog_1_method_4_code 35 = .ok (.getfield 31, 3) := by decide +kernel
theorem dX7_deed_38 : decode prog_1_method_4_code 38 = .ok (.iconst (-1), 1) := by decide +kernel
theorem dX7_deed_39 : decode prog_1_method_4_code 39 = .ok (.if_icmp .eq 13, 3) := by decide +kernel
theorem dX7_deed_42 : decode prog_1_method_4_code 42 = .ok (.new 106, 3) := by decide +kernel
theorem dX7_deed_45 : decode prog_1_method_4_code 45 = .ok (.dup, 1) := by decide +kernel
theorem dX7_deed_46 : decode prog_1_method_4_code 46 = .ok (.ldc 108, 2) := by decide +kernel
theorem dX7_deed_48 : decode prog_1_method_4_code 48 = .ok (.invokespecial 110, 3) := by decide +kernel
theorem dX7_deed_51 : decode prog_1_method_4_code 51 = .ok (.athrow, 1) := by decide +kernel
theorem dX7_deed_52 : decode prog_1_method_4_code 52 = .ok (.aload_n 0, 1) := by decide +kernel
theorem dX7_deed_53 : decode prog_1_method_4_code 53 = .ok (.getfield 37, 3) := by decide +kernel
theorem dX7_deed_56 : decode prog_1_method_4_code 56 = .ok (.getfield 113, 3) := by decide +kernel
theorem dX7_deed_59 : decode prog_1_method_4_code 59 = .ok (.bipush 12, 2) := by decide +kernel
theorem dX7_deed_61 : decode prog_1_method_4_code 61 = .ok (.if_icmp .lt 13, 3) := by decide +kernel
theorem dX7_deed_64 : decode prog_1_method_4_code 64 = .ok (.new 116, 3) := by decide +kernel
theorem dX7_deed_67 : decode prog_1_method_4_code 67 = .ok (.dup, 1) := by decide +kernel
theorem dX7_deed_68 : decode prog_1_method_4_code 68 = .ok (.ldc 118, 2) := by decide +kernel
theorem dX7_deed_70 : decode prog_1_method_4_code 70 = .ok (.invokespecial 120, 3) := by decide +kernel
theorem dX7_deed_73 : decode prog_1_method_4_code 73 = .ok (.athrow, 1) := by decide +kernel
theorem dX7_deed_74 : decode prog_1_method_4_code 74 = .ok (.aload_n 0, 1) := by decide +kernel
theorem dX7_deed_75 : decode prog_1_method_4_code 75 = .ok (.getfield 37, 3) := by decide +kernel
theorem dX7_deed_78 : decode prog_1_method_4_code 78 = .ok (.aload_n 0, 1) := by decide +kernel
theorem dX7_deed_79 : decode prog_1_method_4_code 79 = .ok (.getfield 41, 3) := by decide +kernel
theorem dX7_deed_82 : decode prog_1_method_4_code 82 = .ok (.invokevirtual 94, 3) := by decide +kernel
theorem dX7_deed_85 : decode prog_1_method_4_code 85 = .ok (.aload_n 0, 1) := by decide +kernel
theorem dX7_deed_86 : decode prog_1_method_4_code 86 = .ok (.getfield 37, 3) := by decide +kernel
theorem dX7_deed_89 : decode prog_1_method_4_code 89 = .ok (.dup, 1) := by decide +kernel
theorem dX7_deed_90 : decode prog_1_method_4_code 90 = .ok (.getfield 113, 3) := by decide +kernel
theorem dX7_deed_93 : decode prog_1_method_4_code 93 = .ok (.iconst 1, 1) := by decide +kernel
theorem dX7_deed_94 : decode prog_1_method_4_code 94 = .ok (.iadd, 1) := by decide +kernel
theorem dX7_deed_95 : decode prog_1_method_4_code 95 = .ok (.putfield 113, 3) := by decide +kernel
theorem dX7_deed_98 : decode prog_1_method_4_code 98 = .ok (.aload_n 0, 1) := by decide +kernel
theorem dX7_deed_99 : decode prog_1_method_4_code 99 = .ok (.iconst 0, 1) := by decide +kernel
theorem dX7_deed_100 : decode prog_1_method_4_code 100 = .ok (.putfield 71, 3) := by decide +kernel
theorem dX7_deed_103 : decode prog_1_method_4_code 103 = .ok (.aload_n 0, 1) := by decide +kernel
theorem dX7_deed_104 : decode prog_1_method_4_code 104 = .ok (.getfield 37, 3) := by decide +kernel
theorem dX7_deed_107 : decode prog_1_method_4_code 107 = .ok (.getfield 113, 3) := by decide +kernel
theorem dX7_deed_110 : decode prog_1_method_4_code 110 = .ok (.ireturn, 1) := by decide +kernel
theorem dX7_usedTape_0 : decode prog_1_method_66_code 0 = .ok (.aload_n 0, 1) := by decide +kernel
theorem dX7_usedTape_1 : decode prog_1_method_66_code 1 = .ok (.getfield 13, 3) := by decide +kernel
theorem dX7_usedTape_4 : decode prog_1_method_66_code 4 = .ok (.istore_n 1, 1) := by decide +kernel
theorem dX7_usedTape_5 : decode prog_1_method_66_code 5 = .ok (.aload_n 0, 1) := by decide +kernel
theorem dX7_usedTape_6 : decode prog_1_method_66_code 6 = .ok (.iconst 0, 1) := by decide +kernel
theorem dX7_usedTape_7 : decode prog_1_method_66_code 7 = .ok (.putfield 13, 3) := by decide +kernel
theorem dX7_usedTape_10 : decode prog_1_method_66_code 10 = .ok (.iload_n 1, 1) := by decide +kernel
theorem dX7_usedTape_11 : decode prog_1_method_66_code 11 = .ok (.ireturn, 1) := by decide +kernel
theorem dX7_law_0 : decode prog_1_method_5_code 0 = .ok (.aload_n 0, 1) := by decide +kernel
theorem dX7_law_1 : decode prog_1_method_5_code 1 = .ok (.aload_n 0, 1) := by decide +kernel
theorem dX7_law_2 : decode prog_1_method_5_code 2 = .ok (.getfield 27, 3) := by decide +kernel
theorem dX7_law_5 : decode prog_1_method_5_code 5 = .ok (.aload_n 0, 1) := by decide +kernel
theorem dX7_law_6 : decode prog_1_method_5_code 6 = .ok (.getfield 9, 3) := by decide +kernel
theorem dX7_law_9 : decode prog_1_method_5_code 9 = .ok (.aload_n 0, 1) := by decide +kernel
theorem dX7_law_10 : decode prog_1_method_5_code 10 = .ok (.invokevirtual 98, 3) := by decide +kernel
theorem dX7_law_13 : decode prog_1_method_5_code 13 = .ok (.aload_n 0, 1) := by decide +kernel
theorem dX7_law_14 : decode prog_1_method_5_code 14 = .ok (.getfield 51, 3) := by decide +kernel
theorem dX7_law_17 : decode prog_1_method_5_code 17 = .ok (.invokevirtual 121, 3) := by decide +kernel
theorem dX7_law_20 : decode prog_1_method_5_code 20 = .ok (.putfield 31, 3) := by decide +kernel
theorem dX7_law_23 : decode prog_1_method_5_code 23 = .ok (.aload_n 0, 1) := by decide +kernel
theorem dX7_law_24 : decode prog_1_method_5_code 24 = .ok (.getfield 31, 3) := by decide +kernel
theorem dX7_law_27 : decode prog_1_method_5_code 27 = .ok (.iconst (-1), 1) := by decide +kernel
theorem dX7_law_28 : decode prog_1_method_5_code 28 = .ok (.if_icmp .eq 13, 3) := by decide +kernel
theorem dX7_law_31 : decode prog_1_method_5_code 31 = .ok (.new 106, 3) := by decide +kernel
theorem dX7_law_34 : decode prog_1_method_5_code 34 = .ok (.dup, 1) := by decide +kernel
theorem dX7_law_35 : decode prog_1_method_5_code 35 = .ok (.ldc 108, 2) := by decide +kernel
theorem dX7_law_37 : decode prog_1_method_5_code 37 = .ok (.invokespecial 110, 3) := by decide +kernel
theorem dX7_law_40 : decode prog_1_method_5_code 40 = .ok (.athrow, 1) := by decide +kernel
theorem dX7_law_41 : decode prog_1_method_5_code 41 = .ok (.aload_n 0, 1) := by decide +kernel
theorem dX7_law_42 : decode prog_1_method_5_code 42 = .ok (.getfield 47, 3) := by decide +kernel
theorem dX7_law_45 : decode prog_1_method_5_code 45 = .ok (.astore_n 1, 1) := by decide +kernel
theorem dX7_law_46 : decode prog_1_method_5_code 46 = .ok (.aload_n 0, 1) := by decide +kernel
theorem dX7_law_47 : decode prog_1_method_5_code 47 = .ok (.aload_n 0, 1) := by decide +kernel
theorem dX7_law_48 : decode prog_1_method_5_code 48 = .ok (.getfield 51, 3) := by decide +kernel
theorem dX7_law_51 : decode prog_1_method_5_code 51 = .ok (.putfield 47, 3) := by decide +kernel
theorem dX7_law_54 : decode prog_1_method_5_code 54 = .ok (.aload_n 0, 1) := by decide +kernel
theorem dX7_law_55 : decode prog_1_method_5_code 55 = .ok (.aload_n 1, 1) := by decide +kernel
theorem dX7_law_56 : decode prog_1_method_5_code 56 = .ok (.putfield 51, 3) := by decide +kernel
theorem dX7_law_59 : decode prog_1_method_5_code 59 = .ok (.aload_n 0, 1) := by decide +kernel
theorem dX7_law_60 : decode prog_1_method_5_code 60 = .ok (.iconst 0, 1) := by decide +kernel
theorem dX7_law_61 : decode prog_1_method_5_code 61 = .ok (.putfield 71, 3) := by decide +kernel
theorem dX7_law_64 : decode prog_1_method_5_code 64 = .ok (.aload_n 0, 1) := by decide +kernel
theorem dX7_law_65 : decode prog_1_method_5_code 65 = .ok (.getfield 47, 3) := by decide +kernel
theorem dX7_law_68 : decode prog_1_method_5_code 68 = .ok (.getfield 124, 3) := by decide +kernel
theorem dX7_law_71 : decode prog_1_method_5_code 71 = .ok (.ireturn, 1) := by decide +kernel
theorem dX7_item_0 : decode prog_1_method_7_code 0 = .ok (.aload_n 0, 1) := by decide +kernel
theorem dX7_item_1 : decode prog_1_method_7_code 1 = .ok (.iload_n 1, 1) := by decide +kernel
theorem dX7_item_2 : decode prog_1_method_7_code 2 = .ok (.invokevirtual 127, 3) := by decide +kernel
theorem dX7_item_5 : decode prog_1_method_7_code 5 = .ok (.iload_n 2, 1) := by decide +kernel
theorem dX7_item_6 : decode prog_1_method_7_code 6 = .ok (.bipush 9, 2) := by decide +kernel
theorem dX7_item_8 : decode prog_1_method_7_code 8 = .ok (.invokestatic 130, 3) := by decide +kernel
theorem dX7_item_11 : decode prog_1_method_7_code 11 = .ok (.iload_n 2, 1) := by decide +kernel
theorem dX7_item_12 : decode prog_1_method_7_code 12 = .ok (.tableswitch 162 0 8 #[52, 64, 76, 88, 100, 112, 124, 136, 153], 52) := by decide +kernel
theorem dX7_item_64 : decode prog_1_method_7_code 64 = .ok (.aload_n 0, 1) := by decide +kernel
theorem dX7_item_65 : decode prog_1_method_7_code 65 = .ok (.getfield 37, 3) := by decide +kernel
theorem dX7_item_68 : decode prog_1_method_7_code 68 = .ok (.getfield 134, 3) := by decide +kernel
theorem dX7_item_71 : decode prog_1_method_7_code 71 = .ok (.iload_n 1, 1) := by decide +kernel
theorem dX7_item_72 : decode prog_1_method_7_code 72 = .ok (.invokestatic 137, 3) := by decide +kernel
theorem dX7_item_75 : decode prog_1_method_7_code 75 = .ok (.ireturn, 1) := by decide +kernel
theorem dX7_item_76 : decode prog_1_method_7_code 76 = .ok (.aload_n 0, 1) := by decide +kernel
theorem dX7_item_77 : decode prog_1_method_7_code 77 = .ok (.getfield 37, 3) := by decide +kernel
theorem dX7_item_80 : decode prog_1_method_7_code 80 = .ok (.getfield 141, 3) := by decide +kernel
theorem dX7_item_83 : decode prog_1_method_7_code 83 = .ok (.iload_n 1, 1) := by decide +kernel
theorem dX7_item_84 : decode prog_1_method_7_code 84 = .ok (.invokestatic 137, 3) := by decide +kernel
theorem dX7_item_87 : decode prog_1_method_7_code 87 = .ok (.ireturn, 1) := by decide +kernel
theorem dX7_item_88 : decode prog_1_method_7_code 88 = .ok (.aload_n 0, 1) := by decide +kernel
theorem dX7_item_89 : decode prog_1_method_7_code 89 = .ok (.getfield 37, 3) := by decide +kernel
theorem dX7_item_92 : decode prog_1_method_7_code 92 = .ok (.getfield 144, 3) := by decide +kernel
theorem dX7_item_95 : decode prog_1_method_7_code 95 = .ok (.iload_n 1, 1) := by decide +kernel
theorem dX7_item_96 : decode prog_1_method_7_code 96 = .ok (.invokestatic 137, 3) := by decide +kernel
theorem dX7_item_99 : decode prog_1_method_7_code 99 = .ok (.ireturn, 1) := by decide +kernel
theorem dX7_item_100 : decode prog_1_method_7_code 100 = .ok (.aload_n 0, 1) := by decide +kernel
theorem dX7_item_101 : decode prog_1_method_7_code 101 = .ok (.getfield 37, 3) := by decide +kernel
theorem dX7_item_104 : decode prog_1_method_7_code 104 = .ok (.getfield 147, 3) := by decide +kernel
theorem dX7_item_107 : decode prog_1_method_7_code 107 = .ok (.iload_n 1, 1) := by decide +kernel
theorem dX7_item_108 : decode prog_1_method_7_code 108 = .ok (.invokestatic 137, 3) := by decide +kernel
theorem dX7_item_111 : decode prog_1_method_7_code 111 = .ok (.ireturn, 1) := by decide +kernel
theorem dX7_item_112 : decode prog_1_method_7_code 112 = .ok (.aload_n 0, 1) := by decide +kernel
theorem dX7_item_113 : decode prog_1_method_7_code 113 = .ok (.getfield 37, 3) := by decide +kernel
theorem dX7_item_116 : decode prog_1_method_7_code 116 = .ok (.getfield 150, 3) := by decide +kernel
theorem dX7_item_119 : decode prog_1_method_7_code 119 = .ok (.iload_n 1, 1) := by decide +kernel
theorem dX7_item_120 : decode prog_1_method_7_code 120 = .ok (.invokestatic 137, 3) := by decide +kernel
theorem dX7_item_123 : decode prog_1_method_7_code 123 = .ok (.ireturn, 1) := by decide +kernel
theorem dX7_item_124 : decode prog_1_method_7_code 124 = .ok (.aload_n 0, 1) := by decide +kernel
theorem dX7_item_125 : decode prog_1_method_7_code 125 = .ok (.getfield 37, 3) := by decide +kernel
theorem dX7_item_128 : decode prog_1_method_7_code 128 = .ok (.getfield 153, 3) := by decide +kernel
theorem dX7_item_131 : decode prog_1_method_7_code 131 = .ok (.iload_n 1, 1) := by decide +kernel
theorem dX7_item_132 : decode prog_1_method_7_code 132 = .ok (.invokestatic 137, 3) := by decide +kernel
theorem dX7_item_135 : decode prog_1_method_7_code 135 = .ok (.ireturn, 1) := by decide +kernel
theorem dX7_item_136 : decode prog_1_method_7_code 136 = .ok (.aload_n 0, 1) := by decide +kernel
theorem dX7_item_137 : decode prog_1_method_7_code 137 = .ok (.getfield 37, 3) := by decide +kernel
theorem dX7_item_140 : decode prog_1_method_7_code 140 = .ok (.getfield 156, 3) := by decide +kernel
theorem dX7_item_143 : decode prog_1_method_7_code 143 = .ok (.iload_n 1, 1) := by decide +kernel
theorem dX7_item_144 : decode prog_1_method_7_code 144 = .ok (.invokestatic 137, 3) := by decide +kernel
theorem dX7_item_147 : decode prog_1_method_7_code 147 = .ok (.ireturn, 1) := by decide +kernel
theorem dX7_item_148 : decode prog_1_method_7_code 148 = .ok (.aload_n 0, 1) := by decide +kernel
theorem dX7_item_149 : decode prog_1_method_7_code 149 = .ok (.getfield 37, 3) := by decide +kernel
theorem dX7_item_152 : decode prog_1_method_7_code 152 = .ok (.iload_n 1, 1) := by decide +kernel
theorem dX7_item_153 : decode prog_1_method_7_code 153 = .ok (.invokevirtual 159, 3) := by decide +kernel
theorem dX7_item_156 : decode prog_1_method_7_code 156 = .ok (.ifCond .eq 7, 3) := by decide +kernel
theorem dX7_item_159 : decode prog_1_method_7_code 159 = .ok (.iconst 1, 1) := by decide +kernel
theorem dX7_item_160 : decode prog_1_method_7_code 160 = .ok (.goto 4, 3) := by decide +kernel
theorem dX7_item_163 : decode prog_1_method_7_code 163 = .ok (.iconst 0, 1) := by decide +kernel
theorem dX7_item_164 : decode prog_1_method_7_code 164 = .ok (.ireturn, 1) := by decide +kernel
theorem dX7_item_165 : decode prog_1_method_7_code 165 = .ok (.aload_n 0, 1) := by decide +kernel
theorem dX7_item_166 : decode prog_1_method_7_code 166 = .ok (.getfield 37, 3) := by decide +kernel
theorem dX7_item_169 : decode prog_1_method_7_code 169 = .ok (.iload_n 1, 1) := by decide +kernel
theorem dX7_item_170 : decode prog_1_method_7_code 170 = .ok (.invokevirtual 163, 3) := by decide +kernel
theorem dX7_item_173 : decode prog_1_method_7_code 173 = .ok (.ireturn, 1) := by decide +kernel
theorem dX7_item_174 : decode prog_1_method_7_code 174 = .ok (.aload_n 0, 1) := by decide +kernel
theorem dX7_item_175 : decode prog_1_method_7_code 175 = .ok (.getfield 37, 3) := by decide +kernel
theorem dX7_item_178 : decode prog_1_method_7_code 178 = .ok (.iload_n 1, 1) := by decide +kernel
theorem dX7_item_179 : decode prog_1_method_7_code 179 = .ok (.invokevirtual 167, 3) := by decide +kernel
theorem dX7_item_182 : decode prog_1_method_7_code 182 = .ok (.ireturn, 1) := by decide +kernel
theorem dX7_checkItem_0 : decode prog_1_method_60_code 0 = .ok (.iload_n 1, 1) := by decide +kernel
theorem dX7_checkItem_1 : decode prog_1_method_60_code 1 = .ok (.ifCond .lt 14, 3) := by decide +kernel
theorem dX7_checkItem_4 : decode prog_1_method_60_code 4 = .ok (.iload_n 1, 1) := by decide +kernel
theorem dX7_checkItem_5 : decode prog_1_method_60_code 5 = .ok (.aload_n 0, 1) := by decide +kernel
theorem dX7_checkItem_6 : decode prog_1_method_60_code 6 = .ok (.getfield 37, 3) := by decide +kernel
theorem dX7_checkItem_9 : decode prog_1_method_60_code 9 = .ok (.getfield 242, 3) := by decide +kernel
theorem dX7_checkItem_12 : decode prog_1_method_60_code 12 = .ok (.if_icmp .lt 14, 3) := by decide +kernel
theorem dX7_checkItem_15 : decode prog_1_method_60_code 15 = .ok (.new 365, 3) := by decide +kernel
theorem dX7_checkItem_18 : decode prog_1_method_60_code 18 = .ok (.dup, 1) := by decide +kernel
theorem dX7_checkItem_19 : decode prog_1_method_60_code 19 = .ok (.ldc_w 367, 3) := by decide +kernel
theorem dX7_checkItem_22 : decode prog_1_method_60_code 22 = .ok (.invokespecial 369, 3) := by decide +kernel
theorem dX7_checkItem_25 : decode prog_1_method_60_code 25 = .ok (.athrow, 1) := by decide +kernel
theorem dX7_checkItem_26 : decode prog_1_method_60_code 26 = .ok (.return_, 1) := by decide +kernel
theorem dX7_checkWhat_0 : decode prog_1_method_64_code 0 = .ok (.iload_n 0, 1) := by decide +kernel
theorem dX7_checkWhat_1 : decode prog_1_method_64_code 1 = .ok (.ifCond .lt 8, 3) := by decide +kernel
theorem dX7_checkWhat_4 : decode prog_1_method_64_code 4 = .ok (.iload_n 0, 1) := by decide +kernel
theorem dX7_checkWhat_5 : decode prog_1_method_64_code 5 = .ok (.iload_n 1, 1) := by decide +kernel
theorem dX7_checkWhat_6 : decode prog_1_method_64_code 6 = .ok (.if_icmp .le 14, 3) := by decide +kernel
theorem dX7_checkWhat_9 : decode prog_1_method_64_code 9 = .ok (.new 376, 3) := by decide +kernel
theorem dX7_checkWhat_12 : decode prog_1_method_64_code 12 = .ok (.dup, 1) := by decide +kernel
theorem dX7_checkWhat_13 : decode prog_1_method_64_code 13 = .ok (.ldc_w 378, 3) := by decide +kernel
theorem dX7_checkWhat_16 : decode prog_1_method_64_code 16 = .ok (.invokespecial 380, 3) := by decide +kernel
theorem dX7_checkWhat_19 : decode prog_1_method_64_code 19 = .ok (.athrow, 1) := by decide +kernel
theorem dX7_checkWhat_20 : decode prog_1_method_64_code 20 = .ok (.return_, 1) := by decide +kernel
theorem dX7_room_0 : decode prog_1_method_8_code 0 = .ok (.iload_n 1, 1) := by decide +kernel
theorem dX7_room_1 : decode prog_1_method_8_code 1 = .ok (.invokestatic 170, 3) := by decide +kernel
theorem dX7_room_4 : decode prog_1_method_8_code 4 = .ok (.iload_n 2, 1) := by decide +kernel
theorem dX7_room_5 : decode prog_1_method_8_code 5 = .ok (.iconst 3, 1) := by decide +kernel
theorem dX7_room_6 : decode prog_1_method_8_code 6 = .ok (.invokestatic 130, 3) := by decide +kernel
theorem dX7_room_9 : decode prog_1_method_8_code 9 = .ok (.iload_n 2, 1) := by decide +kernel
theorem dX7_room_10 : decode prog_1_method_8_code 10 = .ok (.tableswitch 66 0 2 #[26, 38, 50], 26) := by decide +kernel
theorem dX7_room_36 : decode prog_1_method_8_code 36 = .ok (.aload_n 0, 1) := by decide +kernel
theorem dX7_room_37 : decode prog_1_method_8_code 37 = .ok (.getfield 37, 3) := by decide +kernel
theorem dX7_room_40 : decode prog_1_method_8_code 40 = .ok (.getfield 173, 3) := by decide +kernel
theorem dX7_room_43 : decode prog_1_method_8_code 43 = .ok (.iload_n 1, 1) := by decide +kernel
theorem dX7_room_44 : decode prog_1_method_8_code 44 = .ok (.invokestatic 137, 3) := by decide +kernel
theorem dX7_room_47 : decode prog_1_method_8_code 47 = .ok (.ireturn, 1) := by decide +kernel
theorem dX7_room_48 : decode prog_1_method_8_code 48 = .ok (.aload_n 0, 1) := by decide +kernel
theorem dX7_room_49 : decode prog_1_method_8_code 49 = .ok (.getfield 37, 3) := by decide +kernel
theorem dX7_room_52 : decode prog_1_method_8_code 52 = .ok (.getfield 176, 3) := by decide +kernel
theorem dX7_room_55 : decode prog_1_method_8_code 55 = .ok (.iload_n 1, 1) := by decide +kernel
theorem dX7_room_56 : decode prog_1_method_8_code 56 = .ok (.invokestatic 137, 3) := by decide +kernel
theorem dX7_room_59 : decode prog_1_method_8_code 59 = .ok (.ireturn, 1) := by decide +kernel
theorem dX7_room_60 : decode prog_1_method_8_code 60 = .ok (.aload_n 0, 1) := by decide +kernel
theorem dX7_room_61 : decode prog_1_method_8_code 61 = .ok (.getfield 37, 3) := by decide +kernel
theorem dX7_room_64 : decode prog_1_method_8_code 64 = .ok (.aload_n 0, 1) := by decide +kernel
theorem dX7_room_65 : decode prog_1_method_8_code 65 = .ok (.getfield 37, 3) := by decide +kernel
theorem dX7_room_68 : decode prog_1_method_8_code 68 = .ok (.getfield 134, 3) := by decide +kernel
theorem dX7_room_71 : decode prog_1_method_8_code 71 = .ok (.iload_n 1, 1) := by decide +kernel
theorem dX7_room_72 : decode prog_1_method_8_code 72 = .ok (.invokevirtual 179, 3) := by decide +kernel
theorem dX7_room_75 : decode prog_1_method_8_code 75 = .ok (.ireturn, 1) := by decide +kernel
theorem dX7_room_76 : decode prog_1_method_8_code 76 = .ok (.aload_n 0, 1) := by decide +kernel
theorem dX7_room_77 : decode prog_1_method_8_code 77 = .ok (.getfield 37, 3) := by decide +kernel
theorem dX7_room_80 : decode prog_1_method_8_code 80 = .ok (.aload_n 0, 1) := by decide +kernel
theorem dX7_room_81 : decode prog_1_method_8_code 81 = .ok (.getfield 37, 3) := by decide +kernel
theorem dX7_room_84 : decode prog_1_method_8_code 84 = .ok (.getfield 141, 3) := by decide +kernel
theorem dX7_room_87 : decode prog_1_method_8_code 87 = .ok (.iload_n 1, 1) := by decide +kernel
theorem dX7_room_88 : decode prog_1_method_8_code 88 = .ok (.invokevirtual 179, 3) := by decide +kernel
theorem dX7_room_91 : decode prog_1_method_8_code 91 = .ok (.ireturn, 1) := by decide +kernel
theorem dX7_checkRoom_0 : decode prog_1_method_61_code 0 = .ok (.iload_n 0, 1) := by decide +kernel
theorem dX7_checkRoom_1 : decode prog_1_method_61_code 1 = .ok (.ifCond .lt 9, 3) := by decide +kernel
theorem dX7_checkRoom_4 : decode prog_1_method_61_code 4 = .ok (.iload_n 0, 1) := by decide +kernel
theorem dX7_checkRoom_5 : decode prog_1_method_61_code 5 = .ok (.bipush 6, 2) := by decide +kernel
theorem dX7_checkRoom_7 : decode prog_1_method_61_code 7 = .ok (.if_icmp .lt 14, 3) := by decide +kernel
theorem dX7_checkRoom_10 : decode prog_1_method_61_code 10 = .ok (.new 365, 3) := by decide +kernel
theorem dX7_checkRoom_13 : decode prog_1_method_61_code 13 = .ok (.dup, 1) := by decide +kernel
theorem dX7_checkRoom_14 : decode prog_1_method_61_code 14 = .ok (.ldc_w 370, 3) := by decide +kernel
theorem dX7_checkRoom_17 : decode prog_1_method_61_code 17 = .ok (.invokespecial 369, 3) := by decide +kernel
theorem dX7_checkRoom_20 : decode prog_1_method_61_code 20 = .ok (.athrow, 1) := by decide +kernel
theorem dX7_checkRoom_21 : decode prog_1_method_61_code 21 = .ok (.return_, 1) := by decide +kernel
theorem dX7_side_0 : decode prog_1_method_9_code 0 = .ok (.iload_n 1, 1) := by decide +kernel
theorem dX7_side_1 : decode prog_1_method_9_code 1 = .ok (.invokestatic 182, 3) := by decide +kernel
theorem dX7_side_4 : decode prog_1_method_9_code 4 = .ok (.iload_n 2, 1) := by decide +kernel
theorem dX7_side_5 : decode prog_1_method_9_code 5 = .ok (.iconst 4, 1) := by decide +kernel
theorem dX7_side_6 : decode prog_1_method_9_code 6 = .ok (.invokestatic 130, 3) := by decide +kernel
theorem dX7_side_9 : decode prog_1_method_9_code 9 = .ok (.iload_n 2, 1) := by decide +kernel
theorem dX7_side_10 : decode prog_1_method_9_code 10 = .ok (.tableswitch 79 0 3 #[30, 42, 54, 70], 30) := by decide +kernel
theorem dX7_side_40 : decode prog_1_method_9_code 40 = .ok (.aload_n 0, 1) := by decide +kernel
theorem dX7_side_41 : decode prog_1_method_9_code 41 = .ok (.getfield 37, 3) := by decide +kernel
theorem dX7_side_44 : decode prog_1_method_9_code 44 = .ok (.getfield 185, 3) := by decide +kernel
theorem dX7_side_47 : decode prog_1_method_9_code 47 = .ok (.iload_n 1, 1) := by decide +kernel
theorem dX7_side_48 : decode prog_1_method_9_code 48 = .ok (.invokestatic 137, 3) := by decide +kernel
theorem dX7_side_51 : decode prog_1_method_9_code 51 = .ok (.ireturn, 1) := by decide +kernel
theorem dX7_side_52 : decode prog_1_method_9_code 52 = .ok (.aload_n 0, 1) := by decide +kernel
theorem dX7_side_53 : decode prog_1_method_9_code 53 = .ok (.getfield 37, 3) := by decide +kernel
theorem dX7_side_56 : decode prog_1_method_9_code 56 = .ok (.getfield 188, 3) := by decide +kernel
theorem dX7_side_59 : decode prog_1_method_9_code 59 = .ok (.iload_n 1, 1) := by decide +kernel
theorem dX7_side_60 : decode prog_1_method_9_code 60 = .ok (.invokestatic 137, 3) := by decide +kernel
theorem dX7_side_63 : decode prog_1_method_9_code 63 = .ok (.ireturn, 1) := by decide +kernel
theorem dX7_side_64 : decode prog_1_method_9_code 64 = .ok (.aload_n 0, 1) := by decide +kernel
theorem dX7_side_65 : decode prog_1_method_9_code 65 = .ok (.getfield 37, 3) := by decide +kernel
theorem dX7_side_68 : decode prog_1_method_9_code 68 = .ok (.aload_n 0, 1) := by decide +kernel
theorem dX7_side_69 : decode prog_1_method_9_code 69 = .ok (.getfield 37, 3) := by decide +kernel
theorem dX7_side_72 : decode prog_1_method_9_code 72 = .ok (.getfield 150, 3) := by decide +kernel
theorem dX7_side_75 : decode prog_1_method_9_code 75 = .ok (.iload_n 1, 1) := by decide +kernel
theorem dX7_side_76 : decode prog_1_method_9_code 76 = .ok (.invokevirtual 179, 3) := by decide +kernel
theorem dX7_side_79 : decode prog_1_method_9_code 79 = .ok (.ireturn, 1) := by decide +kernel
theorem dX7_side_80 : decode prog_1_method_9_code 80 = .ok (.aload_n 0, 1) := by decide +kernel
theorem dX7_side_81 : decode prog_1_method_9_code 81 = .ok (.getfield 37, 3) := by decide +kernel
theorem dX7_side_84 : decode prog_1_method_9_code 84 = .ok (.iload_n 1, 1) := by decide +kernel
theorem dX7_side_85 : decode prog_1_method_9_code 85 = .ok (.invokevirtual 191, 3) := by decide +kernel
theorem dX7_side_88 : decode prog_1_method_9_code 88 = .ok (.ireturn, 1) := by decide +kernel
theorem dX7_side_89 : decode prog_1_method_9_code 89 = .ok (.aload_n 0, 1) := by decide +kernel
theorem dX7_side_90 : decode prog_1_method_9_code 90 = .ok (.getfield 37, 3) := by decide +kernel
theorem dX7_side_93 : decode prog_1_method_9_code 93 = .ok (.iload_n 1, 1) := by decide +kernel
theorem dX7_side_94 : decode prog_1_method_9_code 94 = .ok (.invokevirtual 194, 3) := by decide +kernel
theorem dX7_side_97 : decode prog_1_method_9_code 97 = .ok (.ireturn, 1) := by decide +kernel
theorem dX7_checkSide_0 : decode prog_1_method_62_code 0 = .ok (.iload_n 0, 1) := by decide +kernel
theorem dX7_checkSide_1 : decode prog_1_method_62_code 1 = .ok (.ifCond .lt 8, 3) := by decide +kernel
theorem dX7_checkSide_4 : decode prog_1_method_62_code 4 = .ok (.iload_n 0, 1) := by decide +kernel
theorem dX7_checkSide_5 : decode prog_1_method_62_code 5 = .ok (.iconst 2, 1) := by decide +kernel
theorem dX7_checkSide_6 : decode prog_1_method_62_code 6 = .ok (.if_icmp .lt 14, 3) := by decide +kernel
theorem dX7_checkSide_9 : decode prog_1_method_62_code 9 = .ok (.new 365, 3) := by decide +kernel
theorem dX7_checkSide_12 : decode prog_1_method_62_code 12 = .ok (.dup, 1) := by decide +kernel
theorem dX7_checkSide_13 : decode prog_1_method_62_code 13 = .ok (.ldc_w 372, 3) := by decide +kernel
theorem dX7_checkSide_16 : decode prog_1_method_62_code 16 = .ok (.invokespecial 369, 3) := by decide +kernel
theorem dX7_checkSide_19 : decode prog_1_method_62_code 19 = .ok (.athrow, 1) := by decide +kernel
theorem dX7_checkSide_20 : decode prog_1_method_62_code 20 = .ok (.return_, 1) := by decide +kernel
theorem dX7_does_0 : decode prog_1_method_10_code 0 = .ok (.aload_n 0, 1) := by decide +kernel
theorem dX7_does_1 : decode prog_1_method_10_code 1 = .ok (.iload_n 1, 1) := by decide +kernel
theorem dX7_does_2 : decode prog_1_method_10_code 2 = .ok (.invokevirtual 127, 3) := by decide +kernel
theorem dX7_does_5 : decode prog_1_method_10_code 5 = .ok (.iload_n 2, 1) := by decide +kernel
theorem dX7_does_6 : decode prog_1_method_10_code 6 = .ok (.iconst 2, 1) := by decide +kernel
theorem dX7_does_7 : decode prog_1_method_10_code 7 = .ok (.invokestatic 130, 3) := by decide +kernel
theorem dX7_does_10 : decode prog_1_method_10_code 10 = .ok (.aload_n 0, 1) := by decide +kernel
theorem dX7_does_11 : decode prog_1_method_10_code 11 = .ok (.getfield 47, 3) := by decide +kernel
theorem dX7_does_14 : decode prog_1_method_10_code 14 = .ok (.aload_n 0, 1) := by decide +kernel
theorem dX7_does_15 : decode prog_1_method_10_code 15 = .ok (.getfield 37, 3) := by decide +kernel
theorem dX7_does_18 : decode prog_1_method_10_code 18 = .ok (.iload_n 1, 1) := by decide +kernel
theorem dX7_does_19 : decode prog_1_method_10_code 19 = .ok (.invokevirtual 197, 3) := by decide +kernel
theorem dX7_does_22 : decode prog_1_method_10_code 22 = .ok (.aload_n 0, 1) := by decide +kernel
theorem dX7_does_23 : decode prog_1_method_10_code 23 = .ok (.getfield 47, 3) := by decide +kernel
theorem dX7_does_26 : decode prog_1_method_10_code 26 = .ok (.getfield 201, 3) := by decide +kernel
theorem dX7_does_29 : decode prog_1_method_10_code 29 = .ok (.iload_n 2, 1) := by decide +kernel
theorem dX7_does_30 : decode prog_1_method_10_code 30 = .ok (.invokestatic 137, 3) := by decide +kernel
theorem dX7_does_33 : decode prog_1_method_10_code 33 = .ok (.ireturn, 1) := by decide +kernel
theorem dX7_steps_0 : decode prog_1_method_11_code 0 = .ok (.iload_n 1, 1) := by decide +kernel
theorem dX7_steps_1 : decode prog_1_method_11_code 1 = .ok (.invokestatic 170, 3) := by decide +kernel
theorem dX7_steps_4 : decode prog_1_method_11_code 4 = .ok (.iload_n 2, 1) := by decide +kernel
theorem dX7_steps_5 : decode prog_1_method_11_code 5 = .ok (.invokestatic 170, 3) := by decide +kernel
theorem dX7_steps_8 : decode prog_1_method_11_code 8 = .ok (.iload_n 1, 1) := by decide +kernel
theorem dX7_steps_9 : decode prog_1_method_11_code 9 = .ok (.iload_n 2, 1) := by decide +kernel
theorem dX7_steps_10 : decode prog_1_method_11_code 10 = .ok (.invokestatic 204, 3) := by decide +kernel
theorem dX7_steps_13 : decode prog_1_method_11_code 13 = .ok (.ireturn, 1) := by decide +kernel
theorem dX7_carry_0 : decode prog_1_method_12_code 0 = .ok (.aload_n 0, 1) := by decide +kernel
theorem dX7_carry_1 : decode prog_1_method_12_code 1 = .ok (.iload_n 1, 1) := by decide +kernel
theorem dX7_carry_2 : decode prog_1_method_12_code 2 = .ok (.invokevirtual 127, 3) := by decide +kernel
theorem dX7_carry_5 : decode prog_1_method_12_code 5 = .ok (.iload_n 2, 1) := by decide +kernel
theorem dX7_carry_6 : decode prog_1_method_12_code 6 = .ok (.invokestatic 170, 3) := by decide +kernel
theorem dX7_carry_9 : decode prog_1_method_12_code 9 = .ok (.aload_n 0, 1) := by decide +kernel
theorem dX7_carry_10 : decode prog_1_method_12_code 10 = .ok (.invokevirtual 208, 3) := by decide +kernel
theorem dX7_carry_13 : decode prog_1_method_12_code 13 = .ok (.aload_n 0, 1) := by decide +kernel
theorem dX7_carry_14 : decode prog_1_method_12_code 14 = .ok (.getfield 37, 3) := by decide +kernel
theorem dX7_carry_17 : decode prog_1_method_12_code 17 = .ok (.getfield 134, 3) := by decide +kernel
theorem dX7_carry_20 : decode prog_1_method_12_code 20 = .ok (.iload_n 1, 1) := by decide +kernel
theorem dX7_carry_21 : decode prog_1_method_12_code 21 = .ok (.invokestatic 137, 3) := by decide +kernel
theorem dX7_carry_24 : decode prog_1_method_12_code 24 = .ok (.istore_n 3, 1) := by decide +kernel
theorem dX7_carry_25 : decode prog_1_method_12_code 25 = .ok (.aload_n 0, 1) := by decide +kernel
theorem dX7_carry_26 : decode prog_1_method_12_code 26 = .ok (.getfield 37, 3) := by decide +kernel
theorem dX7_carry_29 : decode prog_1_method_12_code 29 = .ok (.getfield 134, 3) := by decide +kernel
theorem dX7_carry_32 : decode prog_1_method_12_code 32 = .ok (.iload_n 1, 1) := by decide +kernel
theorem dX7_carry_33 : decode prog_1_method_12_code 33 = .ok (.iload_n 2, 1) := by decide +kernel
theorem dX7_carry_34 : decode prog_1_method_12_code 34 = .ok (.invokestatic 211, 3) := by decide +kernel
theorem dX7_carry_37 : decode prog_1_method_12_code 37 = .ok (.iload_n 3, 1) := by decide +kernel
theorem dX7_carry_38 : decode prog_1_method_12_code 38 = .ok (.ireturn, 1) := by decide +kernel
theorem dX7_mend_0 : decode prog_1_method_13_code 0 = .ok (.aload_n 0, 1) := by decide +kernel
theorem dX7_mend_1 : decode prog_1_method_13_code 1 = .ok (.iload_n 1, 1) := by decide +kernel
theorem dX7_mend_2 : decode prog_1_method_13_code 2 = .ok (.invokevirtual 127, 3) := by decide +kernel
theorem dX7_mend_5 : decode prog_1_method_13_code 5 = .ok (.aload_n 0, 1) := by decide +kernel
theorem dX7_mend_6 : decode prog_1_method_13_code 6 = .ok (.invokevirtual 208, 3) := by decide +kernel
theorem dX7_mend_9 : decode prog_1_method_13_code 9 = .ok (.iconst 0, 1) := by decide +kernel
theorem dX7_mend_10 : decode prog_1_method_13_code 10 = .ok (.aload_n 0, 1) := by decide +kernel
theorem dX7_mend_11 : decode prog_1_method_13_code 11 = .ok (.getfield 37, 3) := by decide +kernel
theorem dX7_mend_14 : decode prog_1_method_13_code 14 = .ok (.getfield 144, 3) := by decide +kernel
theorem dX7_mend_17 : decode prog_1_method_13_code 17 = .ok (.iload_n 1, 1) := by decide +kernel
theorem dX7_mend_18 : decode prog_1_method_13_code 18 = .ok (.invokestatic 137, 3) := by decide +kernel
theorem dX7_mend_21 : decode prog_1_method_13_code 21 = .ok (.iconst 5, 1) := by decide +kernel
theorem dX7_mend_22 : decode prog_1_method_13_code 22 = .ok (.isub, 1) := by decide +kernel
theorem dX7_mend_23 : decode prog_1_method_13_code 23 = .ok (.invokestatic 215, 3) := by decide +kernel
theorem dX7_mend_26 : decode prog_1_method_13_code 26 = .ok (.istore_n 2, 1) := by decide +kernel
theorem dX7_mend_27 : decode prog_1_method_13_code 27 = .ok (.aload_n 0, 1) := by decide +kernel
theorem dX7_mend_28 : decode prog_1_method_13_code 28 = .ok (.getfield 37, 3) := by decide +kernel
theorem dX7_mend_31 : decode prog_1_method_13_code 31 = .ok (.getfield 144, 3) := by decide +kernel
theorem dX7_mend_34 : decode prog_1_method_13_code 34 = .ok (.iload_n 1, 1) := by decide +kernel
theorem dX7_mend_35 : decode prog_1_method_13_code 35 = .ok (.iload_n 2, 1) := by decide +kernel
theorem dX7_mend_36 : decode prog_1_method_13_code 36 = .ok (.invokestatic 211, 3) := by decide +kernel
theorem dX7_mend_39 : decode prog_1_method_13_code 39 = .ok (.iload_n 2, 1) := by decide +kernel
theorem dX7_mend_40 : decode prog_1_method_13_code 40 = .ok (.ireturn, 1) := by decide +kernel
theorem dX7_sweep_0 : decode prog_1_method_14_code 0 = .ok (.iload_n 1, 1) := by decide +kernel
theorem dX7_sweep_1 : decode prog_1_method_14_code 1 = .ok (.invokestatic 170, 3) := by decide +kernel
theorem dX7_sweep_4 : decode prog_1_method_14_code 4 = .ok (.aload_n 0, 1) := by decide +kernel
theorem dX7_sweep_5 : decode prog_1_method_14_code 5 = .ok (.invokevirtual 208, 3) := by decide +kernel
theorem dX7_sweep_8 : decode prog_1_method_14_code 8 = .ok (.aload_n 0, 1) := by decide +kernel
theorem dX7_sweep_9 : decode prog_1_method_14_code 9 = .ok (.getfield 37, 3) := by decide +kernel
theorem dX7_sweep_12 : decode prog_1_method_14_code 12 = .ok (.getfield 173, 3) := by decide +kernel
theorem dX7_sweep_15 : decode prog_1_method_14_code 15 = .ok (.iload_n 1, 1) := by decide +kernel
theorem dX7_sweep_16 : decode prog_1_method_14_code 16 = .ok (.invokestatic 137, 3) := by decide +kernel
theorem dX7_sweep_19 : decode prog_1_method_14_code 19 = .ok (.istore_n 2, 1) := by decide +kernel
theorem dX7_sweep_20 : decode prog_1_method_14_code 20 = .ok (.aload_n 0, 1) := by decide +kernel
theorem dX7_sweep_21 : decode prog_1_method_14_code 21 = .ok (.getfield 37, 3) := by decide +kernel
theorem dX7_sweep_24 : decode prog_1_method_14_code 24 = .ok (.getfield 173, 3) := by decide +kernel
theorem dX7_sweep_27 : decode prog_1_method_14_code 27 = .ok (.iload_n 1, 1) := by decide +kernel
theorem dX7_sweep_28 : decode prog_1_method_14_code 28 = .ok (.iconst 0, 1) := by decide +kernel
theorem dX7_sweep_29 : decode prog_1_method_14_code 29 = .ok (.invokestatic 211, 3) := by decide +kernel
theorem dX7_sweep_32 : decode prog_1_method_14_code 32 = .ok (.iload_n 2, 1) := by decide +kernel
theorem dX7_sweep_33 : decode prog_1_method_14_code 33 = .ok (.ireturn, 1) := by decide +kernel
theorem dX7_pay_0 : decode prog_1_method_15_code 0 = .ok (.iload_n 1, 1) := by decide +kernel
theorem dX7_pay_1 : decode prog_1_method_15_code 1 = .ok (.invokestatic 182, 3) := by decide +kernel
theorem dX7_pay_4 : decode prog_1_method_15_code 4 = .ok (.aload_n 0, 1) := by decide +kernel
theorem dX7_pay_5 : decode prog_1_method_15_code 5 = .ok (.getfield 37, 3) := by decide +kernel
theorem dX7_pay_8 : decode prog_1_method_15_code 8 = .ok (.getfield 188, 3) := by decide +kernel
theorem dX7_pay_11 : decode prog_1_method_15_code 11 = .ok (.iload_n 1, 1) := by decide +kernel
theorem dX7_pay_12 : decode prog_1_method_15_code 12 = .ok (.invokestatic 137, 3) := by decide +kernel
theorem dX7_pay_15 : decode prog_1_method_15_code 15 = .ok (.istore_n 3, 1) := by decide +kernel
theorem dX7_pay_16 : decode prog_1_method_15_code 16 = .ok (.iload_n 2, 1) := by decide +kernel
theorem dX7_pay_17 : decode prog_1_method_15_code 17 = .ok (.iconst 1, 1) := by decide +kernel
theorem dX7_pay_18 : decode prog_1_method_15_code 18 = .ok (.iload_n 3, 1) := by decide +kernel
theorem dX7_pay_19 : decode prog_1_method_15_code 19 = .ok (.invokestatic 220, 3) := by decide +kernel
theorem dX7_pay_22 : decode prog_1_method_15_code 22 = .ok (.aload_n 0, 1) := by decide +kernel
theorem dX7_pay_23 : decode prog_1_method_15_code 23 = .ok (.invokevirtual 208, 3) := by decide +kernel
theorem dX7_pay_26 : decode prog_1_method_15_code 26 = .ok (.aload_n 0, 1) := by decide +kernel
theorem dX7_pay_27 : decode prog_1_method_15_code 27 = .ok (.getfield 37, 3) := by decide +kernel
theorem dX7_pay_30 : decode prog_1_method_15_code 30 = .ok (.getfield 188, 3) := by decide +kernel
theorem dX7_pay_33 : decode prog_1_method_15_code 33 = .ok (.iload_n 1, 1) := by decide +kernel
theorem dX7_pay_34 : decode prog_1_method_15_code 34 = .ok (.iload_n 3, 1) := by decide +kernel
theorem dX7_pay_35 : decode prog_1_method_15_code 35 = .ok (.iload_n 2, 1) := by decide +kernel
theorem dX7_pay_36 : decode prog_1_method_15_code 36 = .ok (.isub, 1) := by decide +kernel
theorem dX7_pay_37 : decode prog_1_method_15_code 37 = .ok (.invokestatic 211, 3) := by decide +kernel
theorem dX7_pay_40 : decode prog_1_method_15_code 40 = .ok (.iload_n 3, 1) := by decide +kernel
theorem dX7_pay_41 : decode prog_1_method_15_code 41 = .ok (.iload_n 2, 1) := by decide +kernel
theorem dX7_pay_42 : decode prog_1_method_15_code 42 = .ok (.isub, 1) := by decide +kernel
theorem dX7_pay_43 : decode prog_1_method_15_code 43 = .ok (.ireturn, 1) := by decide +kernel
theorem dX7_checkNumber_0 : decode prog_1_method_63_code 0 = .ok (.iload_n 0, 1) := by decide +kernel
theorem dX7_checkNumber_1 : decode prog_1_method_63_code 1 = .ok (.iload_n 1, 1) := by decide +kernel
theorem dX7_checkNumber_2 : decode prog_1_method_63_code 2 = .ok (.if_icmp .lt 8, 3) := by decide +kernel
theorem dX7_checkNumber_5 : decode prog_1_method_63_code 5 = .ok (.iload_n 0, 1) := by decide +kernel
theorem dX7_checkNumber_6 : decode prog_1_method_63_code 6 = .ok (.iload_n 2, 1) := by decide +kernel
theorem dX7_checkNumber_7 : decode prog_1_method_63_code 7 = .ok (.if_icmp .le 14, 3) := by decide +kernel
theorem dX7_checkNumber_10 : decode prog_1_method_63_code 10 = .ok (.new 106, 3) := by decide +kernel
theorem dX7_checkNumber_13 : decode prog_1_method_63_code 13 = .ok (.dup, 1) := by decide +kernel
theorem dX7_checkNumber_14 : decode prog_1_method_63_code 14 = .ok (.ldc_w 374, 3) := by decide +kernel
theorem dX7_checkNumber_17 : decode prog_1_method_63_code 17 = .ok (.invokespecial 110, 3) := by decide +kernel
theorem dX7_checkNumber_20 : decode prog_1_method_63_code 20 = .ok (.athrow, 1) := by decide +kernel
theorem dX7_checkNumber_21 : decode prog_1_method_63_code 21 = .ok (.return_, 1) := by decide +kernel
theorem dX7_days_0 : decode prog_1_method_17_code 0 = .ok (.iload_n 1, 1) := by decide +kernel
theorem dX7_days_1 : decode prog_1_method_17_code 1 = .ok (.iconst 1, 1) := by decide +kernel
theorem dX7_days_2 : decode prog_1_method_17_code 2 = .ok (.sipush 400, 3) := by decide +kernel
theorem dX7_days_5 : decode prog_1_method_17_code 5 = .ok (.invokestatic 220, 3) := by decide +kernel
theorem dX7_days_8 : decode prog_1_method_17_code 8 = .ok (.aload_n 0, 1) := by decide +kernel
theorem dX7_days_9 : decode prog_1_method_17_code 9 = .ok (.invokevirtual 208, 3) := by decide +kernel
theorem dX7_days_12 : decode prog_1_method_17_code 12 = .ok (.iconst 0, 1) := by decide +kernel
theorem dX7_days_13 : decode prog_1_method_17_code 13 = .ok (.istore_n 2, 1) := by decide +kernel
theorem dX7_days_14 : decode prog_1_method_17_code 14 = .ok (.iconst 0, 1) := by decide +kernel
theorem dX7_days_15 : decode prog_1_method_17_code 15 = .ok (.istore_n 3, 1) := by decide +kernel
theorem dX7_days_16 : decode prog_1_method_17_code 16 = .ok (.iload_n 3, 1) := by decide +kernel
theorem dX7_days_17 : decode prog_1_method_17_code 17 = .ok (.iload_n 1, 1) := by decide +kernel
theorem dX7_days_18 : decode prog_1_method_17_code 18 = .ok (.if_icmp .ge 27, 3) := by decide +kernel
theorem dX7_days_21 : decode prog_1_method_17_code 21 = .ok (.aload_n 0, 1) := by decide +kernel
theorem dX7_days_22 : decode prog_1_method_17_code 22 = .ok (.getfield 37, 3) := by decide +kernel
theorem dX7_days_25 : decode prog_1_method_17_code 25 = .ok (.aload_n 0, 1) := by decide +kernel
theorem dX7_days_26 : decode prog_1_method_17_code 26 = .ok (.getfield 47, 3) := by decide +kernel
theorem dX7_days_29 : decode prog_1_method_17_code 29 = .ok (.iconst 1, 1) := by decide +kernel
theorem dX7_days_30 : decode prog_1_method_17_code 30 = .ok (.invokevirtual 235, 3) := by decide +kernel
theorem dX7_days_33 : decode prog_1_method_17_code 33 = .ok (.ifCond .eq 6, 3) := by decide +kernel
theorem dX7_days_36 : decode prog_1_method_17_code 36 = .ok (.iinc 2 1, 3) := by decide +kernel
theorem dX7_days_39 : decode prog_1_method_17_code 39 = .ok (.iinc 3 1, 3) := by decide +kernel
theorem dX7_days_42 : decode prog_1_method_17_code 42 = .ok (.goto (-26), 3) := by decide +kernel
theorem dX7_days_45 : decode prog_1_method_17_code 45 = .ok (.iload_n 2, 1) := by decide +kernel
theorem dX7_days_46 : decode prog_1_method_17_code 46 = .ok (.ireturn, 1) := by decide +kernel
theorem dX7_ahead_0 : decode prog_1_method_18_code 0 = .ok (.aload_n 0, 1) := by decide +kernel
theorem dX7_ahead_1 : decode prog_1_method_18_code 1 = .ok (.iload_n 1, 1) := by decide +kernel
theorem dX7_ahead_2 : decode prog_1_method_18_code 2 = .ok (.invokevirtual 127, 3) := by decide +kernel
theorem dX7_ahead_5 : decode prog_1_method_18_code 5 = .ok (.iload_n 2, 1) := by decide +kernel
theorem dX7_ahead_6 : decode prog_1_method_18_code 6 = .ok (.iconst 0, 1) := by decide +kernel
theorem dX7_ahead_7 : decode prog_1_method_18_code 7 = .ok (.sipush 400, 3) := by decide +kernel
theorem dX7_ahead_10 : decode prog_1_method_18_code 10 = .ok (.invokestatic 220, 3) := by decide +kernel
theorem dX7_ahead_13 : decode prog_1_method_18_code 13 = .ok (.iload_n 3, 1) := by decide +kernel
theorem dX7_ahead_14 : decode prog_1_method_18_code 14 = .ok (.iconst 2, 1) := by decide +kernel
theorem dX7_ahead_15 : decode prog_1_method_18_code 15 = .ok (.invokestatic 130, 3) := by decide +kernel
theorem dX7_ahead_18 : decode prog_1_method_18_code 18 = .ok (.aload_n 0, 1) := by decide +kernel
theorem dX7_ahead_19 : decode prog_1_method_18_code 19 = .ok (.iload_n 2, 1) := by decide +kernel
theorem dX7_ahead_20 : decode prog_1_method_18_code 20 = .ok (.invokevirtual 239, 3) := by decide +kernel
theorem dX7_ahead_23 : decode prog_1_method_18_code 23 = .ok (.iload_n 3, 1) := by decide +kernel
theorem dX7_ahead_24 : decode prog_1_method_18_code 24 = .ok (.lookupswitch 52 #[(0, 28), (1, 40)], 28) := by decide +kernel
theorem dX7_ahead_52 : decode prog_1_method_18_code 52 = .ok (.aload_n 0, 1) := by decide +kernel
theorem dX7_ahead_53 : decode prog_1_method_18_code 53 = .ok (.getfield 41, 3) := by decide +kernel
theorem dX7_ahead_56 : decode prog_1_method_18_code 56 = .ok (.getfield 134, 3) := by decide +kernel
theorem dX7_ahead_59 : decode prog_1_method_18_code 59 = .ok (.iload_n 1, 1) := by decide +kernel
theorem dX7_ahead_60 : decode prog_1_method_18_code 60 = .ok (.invokestatic 137, 3) := by decide +kernel
theorem dX7_ahead_63 : decode prog_1_method_18_code 63 = .ok (.ireturn, 1) := by decide +kernel
theorem dX7_ahead_64 : decode prog_1_method_18_code 64 = .ok (.aload_n 0, 1) := by decide +kernel
theorem dX7_ahead_65 : decode prog_1_method_18_code 65 = .ok (.getfield 41, 3) := by decide +kernel
theorem dX7_ahead_68 : decode prog_1_method_18_code 68 = .ok (.getfield 144, 3) := by decide +kernel
theorem dX7_ahead_71 : decode prog_1_method_18_code 71 = .ok (.iload_n 1, 1) := by decide +kernel
theorem dX7_ahead_72 : decode prog_1_method_18_code 72 = .ok (.invokestatic 137, 3) := by decide +kernel
theorem dX7_ahead_75 : decode prog_1_method_18_code 75 = .ok (.ireturn, 1) := by decide +kernel
theorem dX7_ahead_76 : decode prog_1_method_18_code 76 = .ok (.aload_n 0, 1) := by decide +kernel
theorem dX7_ahead_77 : decode prog_1_method_18_code 77 = .ok (.getfield 41, 3) := by decide +kernel
theorem dX7_ahead_80 : decode prog_1_method_18_code 80 = .ok (.iload_n 1, 1) := by decide +kernel
theorem dX7_ahead_81 : decode prog_1_method_18_code 81 = .ok (.invokevirtual 159, 3) := by decide +kernel
theorem dX7_ahead_84 : decode prog_1_method_18_code 84 = .ok (.ifCond .eq 7, 3) := by decide +kernel
theorem dX7_ahead_87 : decode prog_1_method_18_code 87 = .ok (.iconst 1, 1) := by decide +kernel
theorem dX7_ahead_88 : decode prog_1_method_18_code 88 = .ok (.goto 4, 3) := by decide +kernel
theorem dX7_ahead_91 : decode prog_1_method_18_code 91 = .ok (.iconst 0, 1) := by decide +kernel
theorem dX7_ahead_92 : decode prog_1_method_18_code 92 = .ok (.ireturn, 1) := by decide +kernel
theorem dX7_goAhead_0 : decode prog_1_method_68_code 0 = .ok (.aload_n 0, 1) := by decide +kernel
theorem dX7_goAhead_1 : decode prog_1_method_68_code 1 = .ok (.getfield 41, 3) := by decide +kernel
theorem dX7_goAhead_4 : decode prog_1_method_68_code 4 = .ok (.aload_n 0, 1) := by decide +kernel
theorem dX7_goAhead_5 : decode prog_1_method_68_code 5 = .ok (.getfield 37, 3) := by decide +kernel
theorem dX7_goAhead_8 : decode prog_1_method_68_code 8 = .ok (.invokevirtual 94, 3) := by decide +kernel
theorem dX7_goAhead_11 : decode prog_1_method_68_code 11 = .ok (.iconst 0, 1) := by decide +kernel
theorem dX7_goAhead_12 : decode prog_1_method_68_code 12 = .ok (.istore_n 2, 1) := by decide +kernel
theorem dX7_goAhead_13 : decode prog_1_method_68_code 13 = .ok (.iload_n 2, 1) := by decide +kernel
theorem dX7_goAhead_14 : decode prog_1_method_68_code 14 = .ok (.iload_n 1, 1) := by decide +kernel
theorem dX7_goAhead_15 : decode prog_1_method_68_code 15 = .ok (.if_icmp .ge 22, 3) := by decide +kernel
theorem dX7_goAhead_18 : decode prog_1_method_68_code 18 = .ok (.aload_n 0, 1) := by decide +kernel
theorem dX7_goAhead_19 : decode prog_1_method_68_code 19 = .ok (.getfield 41, 3) := by decide +kernel
theorem dX7_goAhead_22 : decode prog_1_method_68_code 22 = .ok (.aload_n 0, 1) := by decide +kernel
theorem dX7_goAhead_23 : decode prog_1_method_68_code 23 = .ok (.getfield 47, 3) := by decide +kernel
theorem dX7_goAhead_26 : decode prog_1_method_68_code 26 = .ok (.iconst 0, 1) := by decide +kernel
theorem dX7_goAhead_27 : decode prog_1_method_68_code 27 = .ok (.invokevirtual 235, 3) := by decide +kernel
theorem dX7_goAhead_30 : decode prog_1_method_68_code 30 = .ok (.pop, 1) := by decide +kernel
theorem dX7_goAhead_31 : decode prog_1_method_68_code 31 = .ok (.iinc 2 1, 3) := by decide +kernel
theorem dX7_goAhead_34 : decode prog_1_method_68_code 34 = .ok (.goto (-21), 3) := by decide +kernel
theorem dX7_goAhead_37 : decode prog_1_method_68_code 37 = .ok (.return_, 1) := by decide +kernel
theorem dX7_worst_0 : decode prog_1_method_25_code 0 = .ok (.iload_n 1, 1) := by decide +kernel
theorem dX7_worst_1 : decode prog_1_method_25_code 1 = .ok (.iconst 0, 1) := by decide +kernel
theorem dX7_worst_2 : decode prog_1_method_25_code 2 = .ok (.sipush 400, 3) := by decide +kernel
theorem dX7_worst_5 : decode prog_1_method_25_code 5 = .ok (.invokestatic 220, 3) := by decide +kernel
theorem dX7_worst_8 : decode prog_1_method_25_code 8 = .ok (.aload_n 0, 1) := by decide +kernel
theorem dX7_worst_9 : decode prog_1_method_25_code 9 = .ok (.iload_n 1, 1) := by decide +kernel
theorem dX7_worst_10 : decode prog_1_method_25_code 10 = .ok (.invokevirtual 239, 3) := by decide +kernel
theorem dX7_worst_13 : decode prog_1_method_25_code 13 = .ok (.iconst (-1), 1) := by decide +kernel
theorem dX7_worst_14 : decode prog_1_method_25_code 14 = .ok (.istore_n 2, 1) := by decide +kernel
theorem dX7_worst_15 : decode prog_1_method_25_code 15 = .ok (.iconst (-1), 1) := by decide +kernel
theorem dX7_worst_16 : decode prog_1_method_25_code 16 = .ok (.istore_n 3, 1) := by decide +kernel
theorem dX7_worst_17 : decode prog_1_method_25_code 17 = .ok (.iconst 0, 1) := by decide +kernel
theorem dX7_worst_18 : decode prog_1_method_25_code 18 = .ok (.istore 4, 2) := by decide +kernel
theorem dX7_worst_20 : decode prog_1_method_25_code 20 = .ok (.iload 4, 2) := by decide +kernel
theorem dX7_worst_22 : decode prog_1_method_25_code 22 = .ok (.aload_n 0, 1) := by decide +kernel
theorem dX7_worst_23 : decode prog_1_method_25_code 23 = .ok (.getfield 41, 3) := by decide +kernel
theorem dX7_worst_26 : decode prog_1_method_25_code 26 = .ok (.getfield 242, 3) := by decide +kernel
theorem dX7_worst_29 : decode prog_1_method_25_code 29 = .ok (.if_icmp .ge 41, 3) := by decide +kernel
theorem dX7_worst_32 : decode prog_1_method_25_code 32 = .ok (.aload_n 0, 1) := by decide +kernel
theorem dX7_worst_33 : decode prog_1_method_25_code 33 = .ok (.getfield 41, 3) := by decide +kernel
theorem dX7_worst_36 : decode prog_1_method_25_code 36 = .ok (.getfield 144, 3) := by decide +kernel
theorem dX7_worst_39 : decode prog_1_method_25_code 39 = .ok (.iload 4, 2) := by decide +kernel
theorem dX7_worst_41 : decode prog_1_method_25_code 41 = .ok (.invokestatic 137, 3) := by decide +kernel
theorem dX7_worst_44 : decode prog_1_method_25_code 44 = .ok (.iload_n 3, 1) := by decide +kernel
theorem dX7_worst_45 : decode prog_1_method_25_code 45 = .ok (.if_icmp .le 19, 3) := by decide +kernel
theorem dX7_worst_48 : decode prog_1_method_25_code 48 = .ok (.aload_n 0, 1) := by decide +kernel
theorem dX7_worst_49 : decode prog_1_method_25_code 49 = .ok (.getfield 41, 3) := by decide +kernel
theorem dX7_worst_52 : decode prog_1_method_25_code 52 = .ok (.getfield 144, 3) := by decide +kernel
theorem dX7_worst_55 : decode prog_1_method_25_code 55 = .ok (.iload 4, 2) := by decide +kernel
theorem dX7_worst_57 : decode prog_1_method_25_code 57 = .ok (.invokestatic 137, 3) := by decide +kernel
theorem dX7_worst_60 : decode prog_1_method_25_code 60 = .ok (.istore_n 3, 1) := by decide +kernel
theorem dX7_worst_61 : decode prog_1_method_25_code 61 = .ok (.iload 4, 2) := by decide +kernel
theorem dX7_worst_63 : decode prog_1_method_25_code 63 = .ok (.istore_n 2, 1) := by decide +kernel
theorem dX7_worst_64 : decode prog_1_method_25_code 64 = .ok (.iinc 4 1, 3) := by decide +kernel
theorem dX7_worst_67 : decode prog_1_method_25_code 67 = .ok (.goto (-47), 3) := by decide +kernel
theorem dX7_worst_70 : decode prog_1_method_25_code 70 = .ok (.iload_n 2, 1) := by decide +kernel
theorem dX7_worst_71 : decode prog_1_method_25_code 71 = .ok (.ireturn, 1) := by decide +kernel
theorem dX7_saves_0 : decode prog_1_method_26_code 0 = .ok (.iload_n 1, 1) := by decide +kernel
theorem dX7_saves_1 : decode prog_1_method_26_code 1 = .ok (.iconst 0, 1) := by decide +kernel
theorem dX7_saves_2 : decode prog_1_method_26_code 2 = .ok (.bipush 99, 2) := by decide +kernel
theorem dX7_saves_4 : decode prog_1_method_26_code 4 = .ok (.invokestatic 220, 3) := by decide +kernel
theorem dX7_saves_7 : decode prog_1_method_26_code 7 = .ok (.iconst 0, 1) := by decide +kernel
theorem dX7_saves_8 : decode prog_1_method_26_code 8 = .ok (.istore_n 3, 1) := by decide +kernel
theorem dX7_saves_9 : decode prog_1_method_26_code 9 = .ok (.iconst 0, 1) := by decide +kernel
theorem dX7_saves_10 : decode prog_1_method_26_code 10 = .ok (.istore 4, 2) := by decide +kernel
theorem dX7_saves_12 : decode prog_1_method_26_code 12 = .ok (.iload 4, 2) := by decide +kernel
theorem dX7_saves_14 : decode prog_1_method_26_code 14 = .ok (.bipush 12, 2) := by decide +kernel
theorem dX7_saves_16 : decode prog_1_method_26_code 16 = .ok (.if_icmp .ge 59, 3) := by decide +kernel
theorem dX7_saves_19 : decode prog_1_method_26_code 19 = .ok (.iload 4, 2) := by decide +kernel
theorem dX7_saves_21 : decode prog_1_method_26_code 21 = .ok (.aload_n 0, 1) := by decide +kernel
theorem dX7_saves_22 : decode prog_1_method_26_code 22 = .ok (.getfield 37, 3) := by decide +kernel
theorem dX7_saves_25 : decode prog_1_method_26_code 25 = .ok (.getfield 242, 3) := by decide +kernel
theorem dX7_saves_28 : decode prog_1_method_26_code 28 = .ok (.if_icmp .ge 15, 3) := by decide +kernel
theorem dX7_saves_31 : decode prog_1_method_26_code 31 = .ok (.aload_n 0, 1) := by decide +kernel
theorem dX7_saves_32 : decode prog_1_method_26_code 32 = .ok (.getfield 37, 3) := by decide +kernel
theorem dX7_saves_35 : decode prog_1_method_26_code 35 = .ok (.iload 4, 2) := by decide +kernel
theorem dX7_saves_37 : decode prog_1_method_26_code 37 = .ok (.invokevirtual 167, 3) := by decide +kernel
theorem dX7_saves_40 : decode prog_1_method_26_code 40 = .ok (.goto 4, 3) := by decide +kernel
theorem dX7_saves_43 : decode prog_1_method_26_code 43 = .ok (.iconst 0, 1) := by decide +kernel
theorem dX7_saves_44 : decode prog_1_method_26_code 44 = .ok (.istore 5, 2) := by decide +kernel
theorem dX7_saves_46 : decode prog_1_method_26_code 46 = .ok (.aload_n 0, 1) := by decide +kernel
theorem dX7_saves_47 : decode prog_1_method_26_code 47 = .ok (.getfield 74, 3) := by decide +kernel
theorem dX7_saves_50 : decode prog_1_method_26_code 50 = .ok (.iload 4, 2) := by decide +kernel
theorem dX7_saves_52 : decode prog_1_method_26_code 52 = .ok (.iload 5, 2) := by decide +kernel
theorem dX7_saves_54 : decode prog_1_method_26_code 54 = .ok (.invokestatic 211, 3) := by decide +kernel
theorem dX7_saves_57 : decode prog_1_method_26_code 57 = .ok (.iload 5, 2) := by decide +kernel
theorem dX7_saves_59 : decode prog_1_method_26_code 59 = .ok (.ifCond .ne 10, 3) := by decide +kernel
theorem dX7_saves_62 : decode prog_1_method_26_code 62 = .ok (.iload_n 3, 1) := by decide +kernel
theorem dX7_saves_63 : decode prog_1_method_26_code 63 = .ok (.iconst 1, 1) := by decide +kernel
theorem dX7_saves_64 : decode prog_1_method_26_code 64 = .ok (.iload 4, 2) := by decide +kernel
theorem dX7_saves_66 : decode prog_1_method_26_code 66 = .ok (.ishl, 1) := by decide +kernel
theorem dX7_saves_67 : decode prog_1_method_26_code 67 = .ok (.ior, 1) := by decide +kernel
theorem dX7_saves_68 : decode prog_1_method_26_code 68 = .ok (.istore_n 3, 1) := by decide +kernel
theorem dX7_saves_69 : decode prog_1_method_26_code 69 = .ok (.iinc 4 1, 3) := by decide +kernel
theorem dX7_saves_72 : decode prog_1_method_26_code 72 = .ok (.goto (-60), 3) := by decide +kernel
theorem dX7_saves_75 : decode prog_1_method_26_code 75 = .ok (.aload_n 0, 1) := by decide +kernel
theorem dX7_saves_76 : decode prog_1_method_26_code 76 = .ok (.getfield 80, 3) := by decide +kernel
theorem dX7_saves_79 : decode prog_1_method_26_code 79 = .ok (.aload_n 0, 1) := by decide +kernel
theorem dX7_saves_80 : decode prog_1_method_26_code 80 = .ok (.getfield 74, 3) := by decide +kernel
theorem dX7_saves_83 : decode prog_1_method_26_code 83 = .ok (.invokevirtual 255, 3) := by decide +kernel
theorem dX7_saves_86 : decode prog_1_method_26_code 86 = .ok (.aload_n 0, 1) := by decide +kernel
theorem dX7_saves_87 : decode prog_1_method_26_code 87 = .ok (.getfield 84, 3) := by decide +kernel
theorem dX7_saves_90 : decode prog_1_method_26_code 90 = .ok (.aload_n 0, 1) := by decide +kernel
theorem dX7_saves_91 : decode prog_1_method_26_code 91 = .ok (.getfield 37, 3) := by decide +kernel
theorem dX7_saves_94 : decode prog_1_method_26_code 94 = .ok (.getfield 147, 3) := by decide +kernel
theorem dX7_saves_97 : decode prog_1_method_26_code 97 = .ok (.invokevirtual 255, 3) := by decide +kernel
theorem dX7_saves_100 : decode prog_1_method_26_code 100 = .ok (.iconst 0, 1) := by decide +kernel
theorem dX7_saves_101 : decode prog_1_method_26_code 101 = .ok (.istore 4, 2) := by decide +kernel
theorem dX7_saves_103 : decode prog_1_method_26_code 103 = .ok (.iconst 0, 1) := by decide +kernel
theorem dX7_saves_104 : decode prog_1_method_26_code 104 = .ok (.istore 5, 2) := by decide +kernel
theorem dX7_saves_106 : decode prog_1_method_26_code 106 = .ok (.iconst 1, 1) := by decide +kernel
theorem dX7_saves_107 : decode prog_1_method_26_code 107 = .ok (.istore 6, 2) := by decide +kernel
theorem dX7_saves_109 : decode prog_1_method_26_code 109 = .ok (.iload 6, 2) := by decide +kernel
theorem dX7_saves_111 : decode prog_1_method_26_code 111 = .ok (.iconst 1, 1) := by decide +kernel
theorem dX7_saves_112 : decode prog_1_method_26_code 112 = .ok (.aload_n 0, 1) := by decide +kernel
theorem dX7_saves_113 : decode prog_1_method_26_code 113 = .ok (.getfield 37, 3) := by decide +kernel
theorem dX7_saves_116 : decode prog_1_method_26_code 116 = .ok (.getfield 242, 3) := by decide +kernel
theorem dX7_saves_119 : decode prog_1_method_26_code 119 = .ok (.ishl, 1) := by decide +kernel
theorem dX7_saves_120 : decode prog_1_method_26_code 120 = .ok (.if_icmp .ge 58, 3) := by decide +kernel
theorem dX7_saves_123 : decode prog_1_method_26_code 123 = .ok (.iload 6, 2) := by decide +kernel
theorem dX7_saves_125 : decode prog_1_method_26_code 125 = .ok (.iload_n 3, 1) := by decide +kernel
theorem dX7_saves_126 : decode prog_1_method_26_code 126 = .ok (.iand, 1) := by decide +kernel
theorem dX7_saves_127 : decode prog_1_method_26_code 127 = .ok (.ifCond .ne 45, 3) := by decide +kernel
theorem dX7_saves_130 : decode prog_1_method_26_code 130 = .ok (.aload_n 0, 1) := by decide +kernel
theorem dX7_saves_131 : decode prog_1_method_26_code 131 = .ok (.getfield 80, 3) := by decide +kernel
theorem dX7_saves_134 : decode prog_1_method_26_code 134 = .ok (.iload 6, 2) := by decide +kernel
theorem dX7_saves_136 : decode prog_1_method_26_code 136 = .ok (.invokevirtual 259, 3) := by decide +kernel
theorem dX7_saves_139 : decode prog_1_method_26_code 139 = .ok (.iload_n 1, 1) := by decide +kernel
theorem dX7_saves_140 : decode prog_1_method_26_code 140 = .ok (.if_icmp .gt 32, 3) := by decide +kernel
theorem dX7_saves_143 : decode prog_1_method_26_code 143 = .ok (.aload_n 0, 1) := by decide +kernel
theorem dX7_saves_144 : decode prog_1_method_26_code 144 = .ok (.getfield 84, 3) := by decide +kernel
theorem dX7_saves_147 : decode prog_1_method_26_code 147 = .ok (.iload 6, 2) := by decide +kernel
theorem dX7_saves_149 : decode prog_1_method_26_code 149 = .ok (.invokevirtual 259, 3) := by decide +kernel
theorem dX7_saves_152 : decode prog_1_method_26_code 152 = .ok (.iload 5, 2) := by decide +kernel
theorem dX7_saves_154 : decode prog_1_method_26_code 154 = .ok (.if_icmp .le 18, 3) := by decide +kernel
theorem dX7_saves_157 : decode prog_1_method_26_code 157 = .ok (.iload 6, 2) := by decide +kernel
theorem dX7_saves_159 : decode prog_1_method_26_code 159 = .ok (.istore 4, 2) := by decide +kernel
theorem dX7_saves_161 : decode prog_1_method_26_code 161 = .ok (.aload_n 0, 1) := by decide +kernel
theorem dX7_saves_162 : decode prog_1_method_26_code 162 = .ok (.getfield 84, 3) := by decide +kernel
theorem dX7_saves_165 : decode prog_1_method_26_code 165 = .ok (.iload 6, 2) := by decide +kernel
theorem dX7_saves_167 : decode prog_1_method_26_code 167 = .ok (.invokevirtual 259, 3) := by decide +kernel
theorem dX7_saves_170 : decode prog_1_method_26_code 170 = .ok (.istore 5, 2) := by decide +kernel
theorem dX7_saves_172 : decode prog_1_method_26_code 172 = .ok (.iinc 6 1, 3) := by decide +kernel
theorem dX7_saves_175 : decode prog_1_method_26_code 175 = .ok (.goto (-66), 3) := by decide +kernel
theorem dX7_saves_178 : decode prog_1_method_26_code 178 = .ok (.iload_n 2, 1) := by decide +kernel
theorem dX7_saves_179 : decode prog_1_method_26_code 179 = .ok (.ifCond .eq 8, 3) := by decide +kernel
theorem dX7_saves_182 : decode prog_1_method_26_code 182 = .ok (.iload 5, 2) := by decide +kernel
theorem dX7_saves_184 : decode prog_1_method_26_code 184 = .ok (.goto 5, 3) := by decide +kernel
theorem dX7_saves_187 : decode prog_1_method_26_code 187 = .ok (.iload 4, 2) := by decide +kernel
theorem dX7_saves_189 : decode prog_1_method_26_code 189 = .ok (.ireturn, 1) := by decide +kernel
theorem dX7_calm_0 : decode prog_1_method_29_code 0 = .ok (.iload_n 1, 1) := by decide +kernel
theorem dX7_calm_1 : decode prog_1_method_29_code 1 = .ok (.iconst 0, 1) := by decide +kernel
theorem dX7_calm_2 : decode prog_1_method_29_code 2 = .ok (.bipush 6, 2) := by decide +kernel
theorem dX7_calm_4 : decode prog_1_method_29_code 4 = .ok (.invokestatic 220, 3) := by decide +kernel
theorem dX7_calm_7 : decode prog_1_method_29_code 7 = .ok (.lconst 0, 1) := by decide +kernel
theorem dX7_calm_8 : decode prog_1_method_29_code 8 = .ok (.lstore_n 3, 1) := by decide +kernel
theorem dX7_calm_9 : decode prog_1_method_29_code 9 = .ok (.lconst 1, 1) := by decide +kernel
theorem dX7_calm_10 : decode prog_1_method_29_code 10 = .ok (.lstore 5, 2) := by decide +kernel
theorem dX7_calm_12 : decode prog_1_method_29_code 12 = .ok (.iconst 0, 1) := by decide +kernel
theorem dX7_calm_13 : decode prog_1_method_29_code 13 = .ok (.istore 7, 2) := by decide +kernel
theorem dX7_calm_15 : decode prog_1_method_29_code 15 = .ok (.iload 7, 2) := by decide +kernel
theorem dX7_calm_17 : decode prog_1_method_29_code 17 = .ok (.iload_n 1, 1) := by decide +kernel
theorem dX7_calm_18 : decode prog_1_method_29_code 18 = .ok (.if_icmp .gt 67, 3) := by decide +kernel
theorem dX7_calm_21 : decode prog_1_method_29_code 21 = .ok (.iload 7, 2) := by decide +kernel
theorem dX7_calm_23 : decode prog_1_method_29_code 23 = .ok (.iload_n 2, 1) := by decide +kernel
theorem dX7_calm_24 : decode prog_1_method_29_code 24 = .ok (.if_icmp .lt 39, 3) := by decide +kernel
theorem dX7_calm_27 : decode prog_1_method_29_code 27 = .ok (.lload_n 3, 1) := by decide +kernel
theorem dX7_calm_28 : decode prog_1_method_29_code 28 = .ok (.lload 5, 2) := by decide +kernel
theorem dX7_calm_30 : decode prog_1_method_29_code 30 = .ok (.bipush 100, 2) := by decide +kernel
theorem dX7_calm_32 : decode prog_1_method_29_code 32 = .ok (.aload_n 0, 1) := by decide +kernel
theorem dX7_calm_33 : decode prog_1_method_29_code 33 = .ok (.getfield 37, 3) := by decide +kernel
theorem dX7_calm_36 : decode prog_1_method_29_code 36 = .ok (.getfield 271, 3) := by decide +kernel
theorem dX7_calm_39 : decode prog_1_method_29_code 39 = .ok (.isub, 1) := by decide +kernel
theorem dX7_calm_40 : decode prog_1_method_29_code 40 = .ok (.iload 7, 2) := by decide +kernel
theorem dX7_calm_42 : decode prog_1_method_29_code 42 = .ok (.invokestatic 274, 3) := by decide +kernel
theorem dX7_calm_45 : decode prog_1_method_29_code 45 = .ok (.lmul, 1) := by decide +kernel
theorem dX7_calm_46 : decode prog_1_method_29_code 46 = .ok (.aload_n 0, 1) := by decide +kernel
theorem dX7_calm_47 : decode prog_1_method_29_code 47 = .ok (.getfield 37, 3) := by decide +kernel
theorem dX7_calm_50 : decode prog_1_method_29_code 50 = .ok (.getfield 271, 3) := by decide +kernel
theorem dX7_calm_53 : decode prog_1_method_29_code 53 = .ok (.iload_n 1, 1) := by decide +kernel
theorem dX7_calm_54 : decode prog_1_method_29_code 54 = .ok (.iload 7, 2) := by decide +kernel
theorem dX7_calm_56 : decode prog_1_method_29_code 56 = .ok (.isub, 1) := by decide +kernel
theorem dX7_calm_57 : decode prog_1_method_29_code 57 = .ok (.invokestatic 274, 3) := by decide +kernel
theorem dX7_calm_60 : decode prog_1_method_29_code 60 = .ok (.lmul, 1) := by decide +kernel
theorem dX7_calm_61 : decode prog_1_method_29_code 61 = .ok (.ladd, 1) := by decide +kernel
theorem dX7_calm_62 : decode prog_1_method_29_code 62 = .ok (.lstore_n 3, 1) := by decide +kernel
theorem dX7_calm_63 : decode prog_1_method_29_code 63 = .ok (.lload 5, 2) := by decide +kernel
theorem dX7_calm_65 : decode prog_1_method_29_code 65 = .ok (.iload_n 1, 1) := by decide +kernel
theorem dX7_calm_66 : decode prog_1_method_29_code 66 = .ok (.iload 7, 2) := by decide +kernel
theorem dX7_calm_68 : decode prog_1_method_29_code 68 = .ok (.isub, 1) := by decide +kernel
theorem dX7_calm_69 : decode prog_1_method_29_code 69 = .ok (.i2l, 1) := by decide +kernel
theorem dX7_calm_70 : decode prog_1_method_29_code 70 = .ok (.lmul, 1) := by decide +kernel
theorem dX7_calm_71 : decode prog_1_method_29_code 71 = .ok (.iload 7, 2) := by decide +kernel
theorem dX7_calm_73 : decode prog_1_method_29_code 73 = .ok (.iconst 1, 1) := by decide +kernel
theorem dX7_calm_74 : decode prog_1_method_29_code 74 = .ok (.iadd, 1) := by decide +kernel
theorem dX7_calm_75 : decode prog_1_method_29_code 75 = .ok (.i2l, 1) := by decide +kernel
theorem dX7_calm_76 : decode prog_1_method_29_code 76 = .ok (.ldiv, 1) := by decide +kernel
theorem dX7_calm_77 : decode prog_1_method_29_code 77 = .ok (.lstore 5, 2) := by decide +kernel
theorem dX7_calm_79 : decode prog_1_method_29_code 79 = .ok (.iinc 7 1, 3) := by decide +kernel
theorem dX7_calm_82 : decode prog_1_method_29_code 82 = .ok (.goto (-67), 3) := by decide +kernel
theorem dX7_calm_85 : decode prog_1_method_29_code 85 = .ok (.bipush 100, 2) := by decide +kernel
theorem dX7_calm_87 : decode prog_1_method_29_code 87 = .ok (.iload_n 1, 1) := by decide +kernel
theorem dX7_calm_88 : decode prog_1_method_29_code 88 = .ok (.invokestatic 274, 3) := by decide +kernel
theorem dX7_calm_91 : decode prog_1_method_29_code 91 = .ok (.lstore 7, 2) := by decide +kernel
theorem dX7_calm_93 : decode prog_1_method_29_code 93 = .ok (.lload 7, 2) := by decide +kernel
theorem dX7_calm_95 : decode prog_1_method_29_code 95 = .ok (.lconst 0, 1) := by decide +kernel
theorem dX7_calm_96 : decode prog_1_method_29_code 96 = .ok (.lcmp, 1) := by decide +kernel
theorem dX7_calm_97 : decode prog_1_method_29_code 97 = .ok (.ifCond .le 15, 3) := by decide +kernel
theorem dX7_calm_100 : decode prog_1_method_29_code 100 = .ok (.lload_n 3, 1) := by decide +kernel
theorem dX7_calm_101 : decode prog_1_method_29_code 101 = .ok (.ldc2_w 278, 3) := by decide +kernel
theorem dX7_calm_104 : decode prog_1_method_29_code 104 = .ok (.lmul, 1) := by decide +kernel
theorem dX7_calm_105 : decode prog_1_method_29_code 105 = .ok (.lload 7, 2) := by decide +kernel
theorem dX7_calm_107 : decode prog_1_method_29_code 107 = .ok (.ldiv, 1) := by decide +kernel
theorem dX7_calm_108 : decode prog_1_method_29_code 108 = .ok (.l2i, 1) := by decide +kernel
theorem dX7_calm_109 : decode prog_1_method_29_code 109 = .ok (.goto 4, 3) := by decide +kernel
theorem dX7_calm_112 : decode prog_1_method_29_code 112 = .ok (.iconst 0, 1) := by decide +kernel
theorem dX7_calm_113 : decode prog_1_method_29_code 113 = .ok (.ireturn, 1) := by decide +kernel
theorem dX7_power_0 : decode prog_1_method_75_code 0 = .ok (.lconst 1, 1) := by decide +kernel
theorem dX7_power_1 : decode prog_1_method_75_code 1 = .ok (.lstore_n 2, 1) := by decide +kernel
theorem dX7_power_2 : decode prog_1_method_75_code 2 = .ok (.iconst 0, 1) := by decide +kernel
theorem dX7_power_3 : decode prog_1_method_75_code 3 = .ok (.istore 4, 2) := by decide +kernel
theorem dX7_power_5 : decode prog_1_method_75_code 5 = .ok (.iload 4, 2) := by decide +kernel
theorem dX7_power_7 : decode prog_1_method_75_code 7 = .ok (.iload_n 1, 1) := by decide +kernel
theorem dX7_power_8 : decode prog_1_method_75_code 8 = .ok (.if_icmp .ge 14, 3) := by decide +kernel
theorem dX7_power_11 : decode prog_1_method_75_code 11 = .ok (.lload_n 2, 1) := by decide +kernel
theorem dX7_power_12 : decode prog_1_method_75_code 12 = .ok (.iload_n 0, 1) := by decide +kernel
theorem dX7_power_13 : decode prog_1_method_75_code 13 = .ok (.i2l, 1) := by decide +kernel
theorem dX7_power_14 : decode prog_1_method_75_code 14 = .ok (.lmul, 1) := by decide +kernel
theorem dX7_power_15 : decode prog_1_method_75_code 15 = .ok (.lstore_n 2, 1) := by decide +kernel
theorem dX7_power_16 : decode prog_1_method_75_code 16 = .ok (.iinc 4 1, 3) := by decide +kernel
theorem dX7_power_19 : decode prog_1_method_75_code 19 = .ok (.goto (-14), 3) := by decide +kernel
theorem dX7_power_22 : decode prog_1_method_75_code 22 = .ok (.lload_n 2, 1) := by decide +kernel
theorem dX7_power_23 : decode prog_1_method_75_code 23 = .ok (.lreturn, 1) := by decide +kernel
theorem dX7_boats_0 : decode prog_1_method_30_code 0 = .ok (.iload_n 1, 1) := by decide +kernel
theorem dX7_boats_1 : decode prog_1_method_30_code 1 = .ok (.iconst 0, 1) := by decide +kernel
theorem dX7_boats_2 : decode prog_1_method_30_code 2 = .ok (.sipush 999, 3) := by decide +kernel
theorem dX7_boats_5 : decode prog_1_method_30_code 5 = .ok (.invokestatic 220, 3) := by decide +kernel
theorem dX7_boats_8 : decode prog_1_method_30_code 8 = .ok (.iload_n 2, 1) := by decide +kernel
theorem dX7_boats_9 : decode prog_1_method_30_code 9 = .ok (.iconst 1, 1) := by decide +kernel
theorem dX7_boats_10 : decode prog_1_method_30_code 10 = .ok (.bipush 99, 2) := by decide +kernel
theorem dX7_boats_12 : decode prog_1_method_30_code 12 = .ok (.invokestatic 220, 3) := by decide +kernel
theorem dX7_boats_15 : decode prog_1_method_30_code 15 = .ok (.iload_n 3, 1) := by decide +kernel
theorem dX7_boats_16 : decode prog_1_method_30_code 16 = .ok (.iconst 1, 1) := by decide +kernel
theorem dX7_boats_17 : decode prog_1_method_30_code 17 = .ok (.bipush 9, 2) := by decide +kernel
theorem dX7_boats_19 : decode prog_1_method_30_code 19 = .ok (.invokestatic 220, 3) := by decide +kernel
theorem dX7_boats_22 : decode prog_1_method_30_code 22 = .ok (.iload_n 1, 1) := by decide +kernel
theorem dX7_boats_23 : decode prog_1_method_30_code 23 = .ok (.iload_n 2, 1) := by decide +kernel
theorem dX7_boats_24 : decode prog_1_method_30_code 24 = .ok (.iload_n 3, 1) := by decide +kernel
theorem dX7_boats_25 : decode prog_1_method_30_code 25 = .ok (.imul, 1) := by decide +kernel
theorem dX7_boats_26 : decode prog_1_method_30_code 26 = .ok (.invokestatic 280, 3) := by decide +kernel
theorem dX7_boats_29 : decode prog_1_method_30_code 29 = .ok (.ireturn, 1) := by decide +kernel
theorem dX7_lighten_0 : decode prog_1_method_33_code 0 = .ok (.iload_n 1, 1) := by decide +kernel
theorem dX7_lighten_1 : decode prog_1_method_33_code 1 = .ok (.iconst 0, 1) := by decide +kernel
theorem dX7_lighten_2 : decode prog_1_method_33_code 2 = .ok (.sipush 9999, 3) := by decide +kernel
theorem dX7_lighten_5 : decode prog_1_method_33_code 5 = .ok (.invokestatic 220, 3) := by decide +kernel
theorem dX7_lighten_8 : decode prog_1_method_33_code 8 = .ok (.iconst 0, 1) := by decide +kernel
theorem dX7_lighten_9 : decode prog_1_method_33_code 9 = .ok (.istore_n 2, 1) := by decide +kernel
theorem dX7_lighten_10 : decode prog_1_method_33_code 10 = .ok (.iload_n 2, 1) := by decide +kernel
theorem dX7_lighten_11 : decode prog_1_method_33_code 11 = .ok (.bipush 12, 2) := by decide +kernel
theorem dX7_lighten_13 : decode prog_1_method_33_code 13 = .ok (.if_icmp .ge 40, 3) := by decide +kernel
theorem dX7_lighten_16 : decode prog_1_method_33_code 16 = .ok (.aload_n 0, 1) := by decide +kernel
theorem dX7_lighten_17 : decode prog_1_method_33_code 17 = .ok (.getfield 74, 3) := by decide +kernel
theorem dX7_lighten_20 : decode prog_1_method_33_code 20 = .ok (.iload_n 2, 1) := by decide +kernel
theorem dX7_lighten_21 : decode prog_1_method_33_code 21 = .ok (.iload_n 2, 1) := by decide +kernel
theorem dX7_lighten_22 : decode prog_1_method_33_code 22 = .ok (.aload_n 0, 1) := by decide +kernel
theorem dX7_lighten_23 : decode prog_1_method_33_code 23 = .ok (.getfield 37, 3) := by decide +kernel
theorem dX7_lighten_26 : decode prog_1_method_33_code 26 = .ok (.getfield 242, 3) := by decide +kernel
theorem dX7_lighten_29 : decode prog_1_method_33_code 29 = .ok (.if_icmp .ge 14, 3) := by decide +kernel
theorem dX7_lighten_32 : decode prog_1_method_33_code 32 = .ok (.aload_n 0, 1) := by decide +kernel
theorem dX7_lighten_33 : decode prog_1_method_33_code 33 = .ok (.getfield 37, 3) := by decide +kernel
theorem dX7_lighten_36 : decode prog_1_method_33_code 36 = .ok (.iload_n 2, 1) := by decide +kernel
theorem dX7_lighten_37 : decode prog_1_method_33_code 37 = .ok (.invokevirtual 293, 3) := by decide +kernel
theorem dX7_lighten_40 : decode prog_1_method_33_code 40 = .ok (.goto 4, 3) := by decide +kernel
theorem dX7_lighten_43 : decode prog_1_method_33_code 43 = .ok (.iconst 0, 1) := by decide +kernel
theorem dX7_lighten_44 : decode prog_1_method_33_code 44 = .ok (.invokestatic 211, 3) := by decide +kernel
theorem dX7_lighten_47 : decode prog_1_method_33_code 47 = .ok (.iinc 2 1, 3) := by decide +kernel
theorem dX7_lighten_50 : decode prog_1_method_33_code 50 = .ok (.goto (-40), 3) := by decide +kernel
theorem dX7_lighten_53 : decode prog_1_method_33_code 53 = .ok (.aload_n 0, 1) := by decide +kernel
theorem dX7_lighten_54 : decode prog_1_method_33_code 54 = .ok (.getfield 80, 3) := by decide +kernel
theorem dX7_lighten_57 : decode prog_1_method_33_code 57 = .ok (.aload_n 0, 1) := by decide +kernel
theorem dX7_lighten_58 : decode prog_1_method_33_code 58 = .ok (.getfield 74, 3) := by decide +kernel
theorem dX7_lighten_61 : decode prog_1_method_33_code 61 = .ok (.invokevirtual 255, 3) := by decide +kernel
theorem dX7_lighten_64 : decode prog_1_method_33_code 64 = .ok (.aload_n 0, 1) := by decide +kernel
theorem dX7_lighten_65 : decode prog_1_method_33_code 65 = .ok (.getfield 37, 3) := by decide +kernel
theorem dX7_lighten_68 : decode prog_1_method_33_code 68 = .ok (.invokevirtual 290, 3) := by decide +kernel
theorem dX7_lighten_71 : decode prog_1_method_33_code 71 = .ok (.iload_n 1, 1) := by decide +kernel
theorem dX7_lighten_72 : decode prog_1_method_33_code 72 = .ok (.isub, 1) := by decide +kernel
theorem dX7_lighten_73 : decode prog_1_method_33_code 73 = .ok (.istore_n 2, 1) := by decide +kernel
theorem dX7_lighten_74 : decode prog_1_method_33_code 74 = .ok (.iconst (-1), 1) := by decide +kernel
theorem dX7_lighten_75 : decode prog_1_method_33_code 75 = .ok (.istore_n 3, 1) := by decide +kernel
theorem dX7_lighten_76 : decode prog_1_method_33_code 76 = .ok (.bipush 13, 2) := by decide +kernel
theorem dX7_lighten_78 : decode prog_1_method_33_code 78 = .ok (.istore 4, 2) := by decide +kernel
theorem dX7_lighten_80 : decode prog_1_method_33_code 80 = .ok (.iconst 0, 1) := by decide +kernel
theorem dX7_lighten_81 : decode prog_1_method_33_code 81 = .ok (.istore 5, 2) := by decide +kernel
theorem dX7_lighten_83 : decode prog_1_method_33_code 83 = .ok (.iload 5, 2) := by decide +kernel
theorem dX7_lighten_85 : decode prog_1_method_33_code 85 = .ok (.iconst 1, 1) := by decide +kernel
theorem dX7_lighten_86 : decode prog_1_method_33_code 86 = .ok (.aload_n 0, 1) := by decide +kernel
theorem dX7_lighten_87 : decode prog_1_method_33_code 87 = .ok (.getfield 37, 3) := by decide +kernel
theorem dX7_lighten_90 : decode prog_1_method_33_code 90 = .ok (.getfield 242, 3) := by decide +kernel
theorem dX7_lighten_93 : decode prog_1_method_33_code 93 = .ok (.ishl, 1) := by decide +kernel
theorem dX7_lighten_94 : decode prog_1_method_33_code 94 = .ok (.if_icmp .ge 42, 3) := by decide +kernel
theorem dX7_lighten_97 : decode prog_1_method_33_code 97 = .ok (.aload_n 0, 1) := by decide +kernel
theorem dX7_lighten_98 : decode prog_1_method_33_code 98 = .ok (.getfield 80, 3) := by decide +kernel
theorem dX7_lighten_101 : decode prog_1_method_33_code 101 = .ok (.iload 5, 2) := by decide +kernel
theorem dX7_lighten_103 : decode prog_1_method_33_code 103 = .ok (.invokevirtual 259, 3) := by decide +kernel
theorem dX7_lighten_106 : decode prog_1_method_33_code 106 = .ok (.iload_n 2, 1) := by decide +kernel
theorem dX7_lighten_107 : decode prog_1_method_33_code 107 = .ok (.if_icmp .lt 23, 3) := by decide +kernel
theorem dX7_lighten_110 : decode prog_1_method_33_code 110 = .ok (.iload 5, 2) := by decide +kernel
theorem dX7_lighten_112 : decode prog_1_method_33_code 112 = .ok (.invokestatic 227, 3) := by decide +kernel
theorem dX7_lighten_115 : decode prog_1_method_33_code 115 = .ok (.iload 4, 2) := by decide +kernel
theorem dX7_lighten_117 : decode prog_1_method_33_code 117 = .ok (.if_icmp .ge 13, 3) := by decide +kernel
theorem dX7_lighten_120 : decode prog_1_method_33_code 120 = .ok (.iload 5, 2) := by decide +kernel
theorem dX7_lighten_122 : decode prog_1_method_33_code 122 = .ok (.istore_n 3, 1) := by decide +kernel
theorem dX7_lighten_123 : decode prog_1_method_33_code 123 = .ok (.iload 5, 2) := by decide +kernel
theorem dX7_lighten_125 : decode prog_1_method_33_code 125 = .ok (.invokestatic 227, 3) := by decide +kernel
theorem dX7_lighten_128 : decode prog_1_method_33_code 128 = .ok (.istore 4, 2) := by decide +kernel
theorem dX7_lighten_130 : decode prog_1_method_33_code 130 = .ok (.iinc 5 1, 3) := by decide +kernel
theorem dX7_lighten_133 : decode prog_1_method_33_code 133 = .ok (.goto (-50), 3) := by decide +kernel
theorem dX7_lighten_136 : decode prog_1_method_33_code 136 = .ok (.iload_n 3, 1) := by decide +kernel
theorem dX7_lighten_137 : decode prog_1_method_33_code 137 = .ok (.ireturn, 1) := by decide +kernel
theorem dX7_wearing_0 : decode prog_1_method_34_code 0 = .ok (.aload_n 0, 1) := by decide +kernel
theorem dX7_wearing_1 : decode prog_1_method_34_code 1 = .ok (.iload_n 1, 1) := by decide +kernel
theorem dX7_wearing_2 : decode prog_1_method_34_code 2 = .ok (.invokevirtual 127, 3) := by decide +kernel
theorem dX7_wearing_5 : decode prog_1_method_34_code 5 = .ok (.aload_n 0, 1) := by decide +kernel
theorem dX7_wearing_6 : decode prog_1_method_34_code 6 = .ok (.aload_n 0, 1) := by decide +kernel
theorem dX7_wearing_7 : decode prog_1_method_34_code 7 = .ok (.getfield 37, 3) := by decide +kernel
theorem dX7_wearing_10 : decode prog_1_method_34_code 10 = .ok (.invokevirtual 296, 3) := by decide +kernel
theorem dX7_wearing_13 : decode prog_1_method_34_code 13 = .ok (.invokevirtual 239, 3) := by decide +kernel
theorem dX7_wearing_16 : decode prog_1_method_34_code 16 = .ok (.aload_n 0, 1) := by decide +kernel
theorem dX7_wearing_17 : decode prog_1_method_34_code 17 = .ok (.getfield 41, 3) := by decide +kernel
theorem dX7_wearing_20 : decode prog_1_method_34_code 20 = .ok (.getfield 144, 3) := by decide +kernel
theorem dX7_wearing_23 : decode prog_1_method_34_code 23 = .ok (.iload_n 1, 1) := by decide +kernel
theorem dX7_wearing_24 : decode prog_1_method_34_code 24 = .ok (.invokestatic 137, 3) := by decide +kernel
theorem dX7_wearing_27 : decode prog_1_method_34_code 27 = .ok (.aload_n 0, 1) := by decide +kernel
theorem dX7_wearing_28 : decode prog_1_method_34_code 28 = .ok (.getfield 37, 3) := by decide +kernel
theorem dX7_wearing_31 : decode prog_1_method_34_code 31 = .ok (.getfield 144, 3) := by decide +kernel
theorem dX7_wearing_34 : decode prog_1_method_34_code 34 = .ok (.iload_n 1, 1) := by decide +kernel
theorem dX7_wearing_35 : decode prog_1_method_34_code 35 = .ok (.invokestatic 137, 3) := by decide +kernel
theorem dX7_wearing_38 : decode prog_1_method_34_code 38 = .ok (.isub, 1) := by decide +kernel
theorem dX7_wearing_39 : decode prog_1_method_34_code 39 = .ok (.ireturn, 1) := by decide +kernel
theorem dX7_meets_0 : decode prog_1_method_35_code 0 = .ok (.aload_n 0, 1) := by decide +kernel
theorem dX7_meets_1 : decode prog_1_method_35_code 1 = .ok (.iload_n 1, 1) := by decide +kernel
theorem dX7_meets_2 : decode prog_1_method_35_code 2 = .ok (.invokevirtual 127, 3) := by decide +kernel
theorem dX7_meets_5 : decode prog_1_method_35_code 5 = .ok (.aload_n 0, 1) := by decide +kernel
theorem dX7_meets_6 : decode prog_1_method_35_code 6 = .ok (.iload_n 2, 1) := by decide +kernel
theorem dX7_meets_7 : decode prog_1_method_35_code 7 = .ok (.invokevirtual 127, 3) := by decide +kernel
theorem dX7_meets_10 : decode prog_1_method_35_code 10 = .ok (.iload_n 1, 1) := by decide +kernel
theorem dX7_meets_11 : decode prog_1_method_35_code 11 = .ok (.iload_n 2, 1) := by decide +kernel
theorem dX7_meets_12 : decode prog_1_method_35_code 12 = .ok (.if_icmp .ne 14, 3) := by decide +kernel
theorem dX7_meets_15 : decode prog_1_method_35_code 15 = .ok (.new 106, 3) := by decide +kernel
theorem dX7_meets_18 : decode prog_1_method_35_code 18 = .ok (.dup, 1) := by decide +kernel
theorem dX7_meets_19 : decode prog_1_method_35_code 19 = .ok (.ldc_w 299, 3) := by decide +kernel
theorem dX7_meets_22 : decode prog_1_method_35_code 22 = .ok (.invokespecial 110, 3) := by decide +kernel
theorem dX7_meets_25 : decode prog_1_method_35_code 25 = .ok (.athrow, 1) := by decide +kernel
theorem dX7_meets_26 : decode prog_1_method_35_code 26 = .ok (.aload_n 0, 1) := by decide +kernel
theorem dX7_meets_27 : decode prog_1_method_35_code 27 = .ok (.iload_n 1, 1) := by decide +kernel
theorem dX7_meets_28 : decode prog_1_method_35_code 28 = .ok (.iload_n 2, 1) := by decide +kernel
theorem dX7_meets_29 : decode prog_1_method_35_code 29 = .ok (.invokevirtual 301, 3) := by decide +kernel
theorem dX7_meets_32 : decode prog_1_method_35_code 32 = .ok (.ireturn, 1) := by decide +kernel
theorem dX7_firstMeeting_0 : decode prog_1_method_71_code 0 = .ok (.aload_n 0, 1) := by decide +kernel
theorem dX7_firstMeeting_1 : decode prog_1_method_71_code 1 = .ok (.getfield 41, 3) := by decide +kernel
theorem dX7_firstMeeting_4 : decode prog_1_method_71_code 4 = .ok (.aload_n 0, 1) := by decide +kernel
theorem dX7_firstMeeting_5 : decode prog_1_method_71_code 5 = .ok (.getfield 37, 3) := by decide +kernel
theorem dX7_firstMeeting_8 : decode prog_1_method_71_code 8 = .ok (.invokevirtual 94, 3) := by decide +kernel
theorem dX7_firstMeeting_11 : decode prog_1_method_71_code 11 = .ok (.iconst 0, 1) := by decide +kernel
theorem dX7_firstMeeting_12 : decode prog_1_method_71_code 12 = .ok (.istore_n 3, 1) := by decide +kernel
theorem dX7_firstMeeting_13 : decode prog_1_method_71_code 13 = .ok (.iload_n 3, 1) := by decide +kernel
theorem dX7_firstMeeting_14 : decode prog_1_method_71_code 14 = .ok (.sipush 400, 3) := by decide +kernel
theorem dX7_firstMeeting_17 : decode prog_1_method_71_code 17 = .ok (.if_icmp .gt 49, 3) := by decide +kernel
theorem dX7_firstMeeting_20 : decode prog_1_method_71_code 20 = .ok (.aload_n 0, 1) := by decide +kernel
theorem dX7_firstMeeting_21 : decode prog_1_method_71_code 21 = .ok (.getfield 41, 3) := by decide +kernel
theorem dX7_firstMeeting_24 : decode prog_1_method_71_code 24 = .ok (.getfield 134, 3) := by decide +kernel
theorem dX7_firstMeeting_27 : decode prog_1_method_71_code 27 = .ok (.iload_n 1, 1) := by decide +kernel
theorem dX7_firstMeeting_28 : decode prog_1_method_71_code 28 = .ok (.invokestatic 137, 3) := by decide +kernel
theorem dX7_firstMeeting_31 : decode prog_1_method_71_code 31 = .ok (.aload_n 0, 1) := by decide +kernel
theorem dX7_firstMeeting_32 : decode prog_1_method_71_code 32 = .ok (.getfield 41, 3) := by decide +kernel
theorem dX7_firstMeeting_35 : decode prog_1_method_71_code 35 = .ok (.getfield 134, 3) := by decide +kernel
theorem dX7_firstMeeting_38 : decode prog_1_method_71_code 38 = .ok (.iload_n 2, 1) := by decide +kernel
theorem dX7_firstMeeting_39 : decode prog_1_method_71_code 39 = .ok (.invokestatic 137, 3) := by decide +kernel
theorem dX7_firstMeeting_42 : decode prog_1_method_71_code 42 = .ok (.if_icmp .ne 5, 3) := by decide +kernel
theorem dX7_firstMeeting_45 : decode prog_1_method_71_code 45 = .ok (.iload_n 3, 1) := by decide +kernel
theorem dX7_firstMeeting_46 : decode prog_1_method_71_code 46 = .ok (.ireturn, 1) := by decide +kernel
theorem dX7_firstMeeting_47 : decode prog_1_method_71_code 47 = .ok (.aload_n 0, 1) := by decide +kernel
theorem dX7_firstMeeting_48 : decode prog_1_method_71_code 48 = .ok (.getfield 41, 3) := by decide +kernel
theorem dX7_firstMeeting_51 : decode prog_1_method_71_code 51 = .ok (.aload_n 0, 1) := by decide +kernel
theorem dX7_firstMeeting_52 : decode prog_1_method_71_code 52 = .ok (.getfield 47, 3) := by decide +kernel
theorem dX7_firstMeeting_55 : decode prog_1_method_71_code 55 = .ok (.iconst 0, 1) := by decide +kernel
theorem dX7_firstMeeting_56 : decode prog_1_method_71_code 56 = .ok (.invokevirtual 235, 3) := by decide +kernel
theorem dX7_firstMeeting_59 : decode prog_1_method_71_code 59 = .ok (.pop, 1) := by decide +kernel
theorem dX7_firstMeeting_60 : decode prog_1_method_71_code 60 = .ok (.iinc 3 1, 3) := by decide +kernel
theorem dX7_firstMeeting_63 : decode prog_1_method_71_code 63 = .ok (.goto (-50), 3) := by decide +kernel
theorem dX7_firstMeeting_66 : decode prog_1_method_71_code 66 = .ok (.iconst (-1), 1) := by decide +kernel
theorem dX7_firstMeeting_67 : decode prog_1_method_71_code 67 = .ok (.ireturn, 1) := by decide +kernel
theorem dX7_visits_0 : decode prog_1_method_36_code 0 = .ok (.aload_n 0, 1) := by decide +kernel
theorem dX7_visits_1 : decode prog_1_method_36_code 1 = .ok (.iload_n 1, 1) := by decide +kernel
theorem dX7_visits_2 : decode prog_1_method_36_code 2 = .ok (.invokevirtual 127, 3) := by decide +kernel
theorem dX7_visits_5 : decode prog_1_method_36_code 5 = .ok (.iload_n 2, 1) := by decide +kernel
theorem dX7_visits_6 : decode prog_1_method_36_code 6 = .ok (.iconst 0, 1) := by decide +kernel
theorem dX7_visits_7 : decode prog_1_method_36_code 7 = .ok (.bipush 60, 2) := by decide +kernel
theorem dX7_visits_9 : decode prog_1_method_36_code 9 = .ok (.invokestatic 220, 3) := by decide +kernel
theorem dX7_visits_12 : decode prog_1_method_36_code 12 = .ok (.aload_n 0, 1) := by decide +kernel
theorem dX7_visits_13 : decode prog_1_method_36_code 13 = .ok (.getfield 41, 3) := by decide +kernel
theorem dX7_visits_16 : decode prog_1_method_36_code 16 = .ok (.aload_n 0, 1) := by decide +kernel
theorem dX7_visits_17 : decode prog_1_method_36_code 17 = .ok (.getfield 37, 3) := by decide +kernel
theorem dX7_visits_20 : decode prog_1_method_36_code 20 = .ok (.invokevirtual 94, 3) := by decide +kernel
theorem dX7_visits_23 : decode prog_1_method_36_code 23 = .ok (.iconst 1, 1) := by decide +kernel
theorem dX7_visits_24 : decode prog_1_method_36_code 24 = .ok (.aload_n 0, 1) := by decide +kernel
theorem dX7_visits_25 : decode prog_1_method_36_code 25 = .ok (.getfield 41, 3) := by decide +kernel
theorem dX7_visits_28 : decode prog_1_method_36_code 28 = .ok (.getfield 134, 3) := by decide +kernel
theorem dX7_visits_31 : decode prog_1_method_36_code 31 = .ok (.iload_n 1, 1) := by decide +kernel
theorem dX7_visits_32 : decode prog_1_method_36_code 32 = .ok (.invokestatic 137, 3) := by decide +kernel
theorem dX7_visits_35 : decode prog_1_method_36_code 35 = .ok (.ishl, 1) := by decide +kernel
theorem dX7_visits_36 : decode prog_1_method_36_code 36 = .ok (.istore_n 3, 1) := by decide +kernel
theorem dX7_visits_37 : decode prog_1_method_36_code 37 = .ok (.iconst 0, 1) := by decide +kernel
theorem dX7_visits_38 : decode prog_1_method_36_code 38 = .ok (.istore 4, 2) := by decide +kernel
theorem dX7_visits_40 : decode prog_1_method_36_code 40 = .ok (.iload 4, 2) := by decide +kernel
theorem dX7_visits_42 : decode prog_1_method_36_code 42 = .ok (.iload_n 2, 1) := by decide +kernel
theorem dX7_visits_43 : decode prog_1_method_36_code 43 = .ok (.if_icmp .ge 38, 3) := by decide +kernel
theorem dX7_visits_46 : decode prog_1_method_36_code 46 = .ok (.aload_n 0, 1) := by decide +kernel
theorem dX7_visits_47 : decode prog_1_method_36_code 47 = .ok (.getfield 41, 3) := by decide +kernel
theorem dX7_visits_50 : decode prog_1_method_36_code 50 = .ok (.aload_n 0, 1) := by decide +kernel
theorem dX7_visits_51 : decode prog_1_method_36_code 51 = .ok (.getfield 47, 3) := by decide +kernel
theorem dX7_visits_54 : decode prog_1_method_36_code 54 = .ok (.iconst 0, 1) := by decide +kernel
theorem dX7_visits_55 : decode prog_1_method_36_code 55 = .ok (.invokevirtual 235, 3) := by decide +kernel
theorem dX7_visits_58 : decode prog_1_method_36_code 58 = .ok (.pop, 1) := by decide +kernel
theorem dX7_visits_59 : decode prog_1_method_36_code 59 = .ok (.iload_n 3, 1) := by decide +kernel
theorem dX7_visits_60 : decode prog_1_method_36_code 60 = .ok (.iconst 1, 1) := by decide +kernel
theorem dX7_visits_61 : decode prog_1_method_36_code 61 = .ok (.aload_n 0, 1) := by decide +kernel
theorem dX7_visits_62 : decode prog_1_method_36_code 62 = .ok (.getfield 41, 3) := by decide +kernel
theorem dX7_visits_65 : decode prog_1_method_36_code 65 = .ok (.getfield 134, 3) := by decide +kernel
theorem dX7_visits_68 : decode prog_1_method_36_code 68 = .ok (.iload_n 1, 1) := by decide +kernel
theorem dX7_visits_69 : decode prog_1_method_36_code 69 = .ok (.invokestatic 137, 3) := by decide +kernel
theorem dX7_visits_72 : decode prog_1_method_36_code 72 = .ok (.ishl, 1) := by decide +kernel
theorem dX7_visits_73 : decode prog_1_method_36_code 73 = .ok (.ior, 1) := by decide +kernel
theorem dX7_visits_74 : decode prog_1_method_36_code 74 = .ok (.istore_n 3, 1) := by decide +kernel
theorem dX7_visits_75 : decode prog_1_method_36_code 75 = .ok (.iinc 4 1, 3) := by decide +kernel
theorem dX7_visits_78 : decode prog_1_method_36_code 78 = .ok (.goto (-38), 3) := by decide +kernel
theorem dX7_visits_81 : decode prog_1_method_36_code 81 = .ok (.iload_n 3, 1) := by decide +kernel
theorem dX7_visits_82 : decode prog_1_method_36_code 82 = .ok (.ireturn, 1) := by decide +kernel
theorem dX7_crowd_0 : decode prog_1_method_37_code 0 = .ok (.iload_n 1, 1) := by decide +kernel
theorem dX7_crowd_1 : decode prog_1_method_37_code 1 = .ok (.iconst 0, 1) := by decide +kernel
theorem dX7_crowd_2 : decode prog_1_method_37_code 2 = .ok (.sipush 400, 3) := by decide +kernel
theorem dX7_crowd_5 : decode prog_1_method_37_code 5 = .ok (.invokestatic 220, 3) := by decide +kernel
theorem dX7_crowd_8 : decode prog_1_method_37_code 8 = .ok (.aload_n 0, 1) := by decide +kernel
theorem dX7_crowd_9 : decode prog_1_method_37_code 9 = .ok (.iload_n 1, 1) := by decide +kernel
theorem dX7_crowd_10 : decode prog_1_method_37_code 10 = .ok (.invokevirtual 239, 3) := by decide +kernel
theorem dX7_crowd_13 : decode prog_1_method_37_code 13 = .ok (.iconst 0, 1) := by decide +kernel
theorem dX7_crowd_14 : decode prog_1_method_37_code 14 = .ok (.istore_n 2, 1) := by decide +kernel
theorem dX7_crowd_15 : decode prog_1_method_37_code 15 = .ok (.iconst 0, 1) := by decide +kernel
theorem dX7_crowd_16 : decode prog_1_method_37_code 16 = .ok (.istore_n 3, 1) := by decide +kernel
theorem dX7_crowd_17 : decode prog_1_method_37_code 17 = .ok (.iload_n 3, 1) := by decide +kernel
theorem dX7_crowd_18 : decode prog_1_method_37_code 18 = .ok (.bipush 6, 2) := by decide +kernel
theorem dX7_crowd_20 : decode prog_1_method_37_code 20 = .ok (.if_icmp .ge 32, 3) := by decide +kernel
theorem dX7_crowd_23 : decode prog_1_method_37_code 23 = .ok (.iload_n 2, 1) := by decide +kernel
theorem dX7_crowd_24 : decode prog_1_method_37_code 24 = .ok (.aload_n 0, 1) := by decide +kernel
theorem dX7_crowd_25 : decode prog_1_method_37_code 25 = .ok (.getfield 41, 3) := by decide +kernel
theorem dX7_crowd_28 : decode prog_1_method_37_code 28 = .ok (.aload_n 0, 1) := by decide +kernel
theorem dX7_crowd_29 : decode prog_1_method_37_code 29 = .ok (.getfield 41, 3) := by decide +kernel
theorem dX7_crowd_32 : decode prog_1_method_37_code 32 = .ok (.getfield 134, 3) := by decide +kernel
theorem dX7_crowd_35 : decode prog_1_method_37_code 35 = .ok (.iload_n 3, 1) := by decide +kernel
theorem dX7_crowd_36 : decode prog_1_method_37_code 36 = .ok (.invokevirtual 179, 3) := by decide +kernel
theorem dX7_crowd_39 : decode prog_1_method_37_code 39 = .ok (.invokestatic 227, 3) := by decide +kernel
theorem dX7_crowd_42 : decode prog_1_method_37_code 42 = .ok (.invokestatic 215, 3) := by decide +kernel
theorem dX7_crowd_45 : decode prog_1_method_37_code 45 = .ok (.istore_n 2, 1) := by decide +kernel
theorem dX7_crowd_46 : decode prog_1_method_37_code 46 = .ok (.iinc 3 1, 3) := by decide +kernel
theorem dX7_crowd_49 : decode prog_1_method_37_code 49 = .ok (.goto (-32), 3) := by decide +kernel
theorem dX7_crowd_52 : decode prog_1_method_37_code 52 = .ok (.iload_n 2, 1) := by decide +kernel
theorem dX7_crowd_53 : decode prog_1_method_37_code 53 = .ok (.ireturn, 1) := by decide +kernel
theorem dX7_stays_0 : decode prog_1_method_38_code 0 = .ok (.aload_n 0, 1) := by decide +kernel
theorem dX7_stays_1 : decode prog_1_method_38_code 1 = .ok (.iload_n 1, 1) := by decide +kernel
theorem dX7_stays_2 : decode prog_1_method_38_code 2 = .ok (.invokevirtual 127, 3) := by decide +kernel
theorem dX7_stays_5 : decode prog_1_method_38_code 5 = .ok (.aload_n 0, 1) := by decide +kernel
theorem dX7_stays_6 : decode prog_1_method_38_code 6 = .ok (.getfield 41, 3) := by decide +kernel
theorem dX7_stays_9 : decode prog_1_method_38_code 9 = .ok (.aload_n 0, 1) := by decide +kernel
theorem dX7_stays_10 : decode prog_1_method_38_code 10 = .ok (.getfield 37, 3) := by decide +kernel
theorem dX7_stays_13 : decode prog_1_method_38_code 13 = .ok (.invokevirtual 94, 3) := by decide +kernel
theorem dX7_stays_16 : decode prog_1_method_38_code 16 = .ok (.iconst 1, 1) := by decide +kernel
theorem dX7_stays_17 : decode prog_1_method_38_code 17 = .ok (.istore_n 2, 1) := by decide +kernel
theorem dX7_stays_18 : decode prog_1_method_38_code 18 = .ok (.iload_n 2, 1) := by decide +kernel
theorem dX7_stays_19 : decode prog_1_method_38_code 19 = .ok (.sipush 400, 3) := by decide +kernel
theorem dX7_stays_22 : decode prog_1_method_38_code 22 = .ok (.if_icmp .gt 49, 3) := by decide +kernel
theorem dX7_stays_25 : decode prog_1_method_38_code 25 = .ok (.aload_n 0, 1) := by decide +kernel
theorem dX7_stays_26 : decode prog_1_method_38_code 26 = .ok (.getfield 41, 3) := by decide +kernel
theorem dX7_stays_29 : decode prog_1_method_38_code 29 = .ok (.aload_n 0, 1) := by decide +kernel
theorem dX7_stays_30 : decode prog_1_method_38_code 30 = .ok (.getfield 47, 3) := by decide +kernel
theorem dX7_stays_33 : decode prog_1_method_38_code 33 = .ok (.iconst 0, 1) := by decide +kernel
theorem dX7_stays_34 : decode prog_1_method_38_code 34 = .ok (.invokevirtual 235, 3) := by decide +kernel
theorem dX7_stays_37 : decode prog_1_method_38_code 37 = .ok (.pop, 1) := by decide +kernel
theorem dX7_stays_38 : decode prog_1_method_38_code 38 = .ok (.aload_n 0, 1) := by decide +kernel
theorem dX7_stays_39 : decode prog_1_method_38_code 39 = .ok (.getfield 41, 3) := by decide +kernel
theorem dX7_stays_42 : decode prog_1_method_38_code 42 = .ok (.getfield 134, 3) := by decide +kernel
theorem dX7_stays_45 : decode prog_1_method_38_code 45 = .ok (.iload_n 1, 1) := by decide +kernel
theorem dX7_stays_46 : decode prog_1_method_38_code 46 = .ok (.invokestatic 137, 3) := by decide +kernel
theorem dX7_stays_49 : decode prog_1_method_38_code 49 = .ok (.aload_n 0, 1) := by decide +kernel
theorem dX7_stays_50 : decode prog_1_method_38_code 50 = .ok (.getfield 37, 3) := by decide +kernel
theorem dX7_stays_53 : decode prog_1_method_38_code 53 = .ok (.getfield 134, 3) := by decide +kernel
theorem dX7_stays_56 : decode prog_1_method_38_code 56 = .ok (.iload_n 1, 1) := by decide +kernel
theorem dX7_stays_57 : decode prog_1_method_38_code 57 = .ok (.invokestatic 137, 3) := by decide +kernel
theorem dX7_stays_60 : decode prog_1_method_38_code 60 = .ok (.if_icmp .eq 5, 3) := by decide +kernel
theorem dX7_stays_63 : decode prog_1_method_38_code 63 = .ok (.iload_n 2, 1) := by decide +kernel
theorem dX7_stays_64 : decode prog_1_method_38_code 64 = .ok (.ireturn, 1) := by decide +kernel
theorem dX7_stays_65 : decode prog_1_method_38_code 65 = .ok (.iinc 2 1, 3) := by decide +kernel
theorem dX7_stays_68 : decode prog_1_method_38_code 68 = .ok (.goto (-50), 3) := by decide +kernel
theorem dX7_stays_71 : decode prog_1_method_38_code 71 = .ok (.iconst (-1), 1) := by decide +kernel
theorem dX7_stays_72 : decode prog_1_method_38_code 72 = .ok (.ireturn, 1) := by decide +kernel
theorem dX7_traces_0 : decode prog_1_method_44_code 0 = .ok (.aload_n 0, 1) := by decide +kernel
theorem dX7_traces_1 : decode prog_1_method_44_code 1 = .ok (.invokevirtual 313, 3) := by decide +kernel
theorem dX7_traces_4 : decode prog_1_method_44_code 4 = .ok (.istore_n 2, 1) := by decide +kernel
theorem dX7_traces_5 : decode prog_1_method_44_code 5 = .ok (.iload_n 1, 1) := by decide +kernel
theorem dX7_traces_6 : decode prog_1_method_44_code 6 = .ok (.ifCond .ne 9, 3) := by decide +kernel
theorem dX7_traces_9 : decode prog_1_method_44_code 9 = .ok (.iload_n 2, 1) := by decide +kernel
theorem dX7_traces_10 : decode prog_1_method_44_code 10 = .ok (.iconst 0, 1) := by decide +kernel
theorem dX7_traces_11 : decode prog_1_method_44_code 11 = .ok (.invokestatic 316, 3) := by decide +kernel
theorem dX7_traces_14 : decode prog_1_method_44_code 14 = .ok (.ireturn, 1) := by decide +kernel
theorem dX7_traces_15 : decode prog_1_method_44_code 15 = .ok (.iload_n 2, 1) := by decide +kernel
theorem dX7_traces_16 : decode prog_1_method_44_code 16 = .ok (.iconst 0, 1) := by decide +kernel
theorem dX7_traces_17 : decode prog_1_method_44_code 17 = .ok (.invokestatic 316, 3) := by decide +kernel
theorem dX7_traces_20 : decode prog_1_method_44_code 20 = .ok (.ifCond .ne 5, 3) := by decide +kernel
theorem dX7_traces_23 : decode prog_1_method_44_code 23 = .ok (.iconst 0, 1) := by decide +kernel
theorem dX7_traces_24 : decode prog_1_method_44_code 24 = .ok (.ireturn, 1) := by decide +kernel
theorem dX7_traces_25 : decode prog_1_method_44_code 25 = .ok (.bipush 63, 2) := by decide +kernel
theorem dX7_traces_27 : decode prog_1_method_44_code 27 = .ok (.istore_n 3, 1) := by decide +kernel
theorem dX7_traces_28 : decode prog_1_method_44_code 28 = .ok (.iconst 0, 1) := by decide +kernel
theorem dX7_traces_29 : decode prog_1_method_44_code 29 = .ok (.istore 4, 2) := by decide +kernel
theorem dX7_traces_31 : decode prog_1_method_44_code 31 = .ok (.iload 4, 2) := by decide +kernel
theorem dX7_traces_33 : decode prog_1_method_44_code 33 = .ok (.bipush 36, 2) := by decide +kernel
theorem dX7_traces_35 : decode prog_1_method_44_code 35 = .ok (.if_icmp .ge 26, 3) := by decide +kernel
theorem dX7_traces_38 : decode prog_1_method_44_code 38 = .ok (.iload 4, 2) := by decide +kernel
theorem dX7_traces_40 : decode prog_1_method_44_code 40 = .ok (.iload_n 2, 1) := by decide +kernel
theorem dX7_traces_41 : decode prog_1_method_44_code 41 = .ok (.invokestatic 319, 3) := by decide +kernel
theorem dX7_traces_44 : decode prog_1_method_44_code 44 = .ok (.ifCond .eq 11, 3) := by decide +kernel
theorem dX7_traces_47 : decode prog_1_method_44_code 47 = .ok (.iload_n 3, 1) := by decide +kernel
theorem dX7_traces_48 : decode prog_1_method_44_code 48 = .ok (.iload 4, 2) := by decide +kernel
theorem dX7_traces_50 : decode prog_1_method_44_code 50 = .ok (.invokestatic 323, 3) := by decide +kernel
theorem dX7_traces_53 : decode prog_1_method_44_code 53 = .ok (.iand, 1) := by decide +kernel
theorem dX7_traces_54 : decode prog_1_method_44_code 54 = .ok (.istore_n 3, 1) := by decide +kernel
theorem dX7_traces_55 : decode prog_1_method_44_code 55 = .ok (.iinc 4 1, 3) := by decide +kernel
theorem dX7_traces_58 : decode prog_1_method_44_code 58 = .ok (.goto (-27), 3) := by decide +kernel
theorem dX7_traces_61 : decode prog_1_method_44_code 61 = .ok (.iload_n 3, 1) := by decide +kernel
theorem dX7_traces_62 : decode prog_1_method_44_code 62 = .ok (.ireturn, 1) := by decide +kernel
theorem dX7_readTraces_0 : decode prog_1_method_81_code 0 = .ok (.aload_n 0, 1) := by decide +kernel
theorem dX7_readTraces_1 : decode prog_1_method_81_code 1 = .ok (.invokevirtual 98, 3) := by decide +kernel
theorem dX7_readTraces_4 : decode prog_1_method_81_code 4 = .ok (.istore_n 1, 1) := by decide +kernel
theorem dX7_readTraces_5 : decode prog_1_method_81_code 5 = .ok (.iload_n 1, 1) := by decide +kernel
theorem dX7_readTraces_6 : decode prog_1_method_81_code 6 = .ok (.bipush 40, 2) := by decide +kernel
theorem dX7_readTraces_8 : decode prog_1_method_81_code 8 = .ok (.if_icmp .gt 9, 3) := by decide +kernel
theorem dX7_readTraces_11 : decode prog_1_method_81_code 11 = .ok (.iload_n 1, 1) := by decide +kernel
theorem dX7_readTraces_12 : decode prog_1_method_81_code 12 = .ok (.iconst 2, 1) := by decide +kernel
theorem dX7_readTraces_13 : decode prog_1_method_81_code 13 = .ok (.irem, 1) := by decide +kernel
theorem dX7_readTraces_14 : decode prog_1_method_81_code 14 = .ok (.ifCond .eq 14, 3) := by decide +kernel
theorem dX7_readTraces_17 : decode prog_1_method_81_code 17 = .ok (.new 106, 3) := by decide +kernel
theorem dX7_readTraces_20 : decode prog_1_method_81_code 20 = .ok (.dup, 1) := by decide +kernel
theorem dX7_readTraces_21 : decode prog_1_method_81_code 21 = .ok (.ldc_w 384, 3) := by decide +kernel
theorem dX7_readTraces_24 : decode prog_1_method_81_code 24 = .ok (.invokespecial 110, 3) := by decide +kernel
theorem dX7_readTraces_27 : decode prog_1_method_81_code 27 = .ok (.athrow, 1) := by decide +kernel
theorem dX7_readTraces_28 : decode prog_1_method_81_code 28 = .ok (.iconst 0, 1) := by decide +kernel
theorem dX7_readTraces_29 : decode prog_1_method_81_code 29 = .ok (.istore_n 2, 1) := by decide +kernel
theorem dX7_readTraces_30 : decode prog_1_method_81_code 30 = .ok (.iconst 0, 1) := by decide +kernel
theorem dX7_readTraces_31 : decode prog_1_method_81_code 31 = .ok (.istore_n 3, 1) := by decide +kernel
theorem dX7_readTraces_32 : decode prog_1_method_81_code 32 = .ok (.iload_n 3, 1) := by decide +kernel
theorem dX7_readTraces_33 : decode prog_1_method_81_code 33 = .ok (.iconst 1, 1) := by decide +kernel
theorem dX7_readTraces_34 : decode prog_1_method_81_code 34 = .ok (.iadd, 1) := by decide +kernel
theorem dX7_readTraces_35 : decode prog_1_method_81_code 35 = .ok (.iload_n 1, 1) := by decide +kernel
theorem dX7_readTraces_36 : decode prog_1_method_81_code 36 = .ok (.if_icmp .ge 76, 3) := by decide +kernel
theorem dX7_readTraces_39 : decode prog_1_method_81_code 39 = .ok (.aload_n 0, 1) := by decide +kernel
theorem dX7_readTraces_40 : decode prog_1_method_81_code 40 = .ok (.getfield 9, 3) := by decide +kernel
theorem dX7_readTraces_43 : decode prog_1_method_81_code 43 = .ok (.iload_n 3, 1) := by decide +kernel
theorem dX7_readTraces_44 : decode prog_1_method_81_code 44 = .ok (.invokestatic 137, 3) := by decide +kernel
theorem dX7_readTraces_47 : decode prog_1_method_81_code 47 = .ok (.istore 4, 2) := by decide +kernel
theorem dX7_readTraces_49 : decode prog_1_method_81_code 49 = .ok (.aload_n 0, 1) := by decide +kernel
theorem dX7_readTraces_50 : decode prog_1_method_81_code 50 = .ok (.getfield 9, 3) := by decide +kernel
theorem dX7_readTraces_53 : decode prog_1_method_81_code 53 = .ok (.iload_n 3, 1) := by decide +kernel
theorem dX7_readTraces_54 : decode prog_1_method_81_code 54 = .ok (.iconst 1, 1) := by decide +kernel
theorem dX7_readTraces_55 : decode prog_1_method_81_code 55 = .ok (.iadd, 1) := by decide +kernel
theorem dX7_readTraces_56 : decode prog_1_method_81_code 56 = .ok (.invokestatic 137, 3) := by decide +kernel
theorem dX7_readTraces_59 : decode prog_1_method_81_code 59 = .ok (.istore 5, 2) := by decide +kernel
theorem dX7_readTraces_61 : decode prog_1_method_81_code 61 = .ok (.iload 4, 2) := by decide +kernel
theorem dX7_readTraces_63 : decode prog_1_method_81_code 63 = .ok (.bipush 6, 2) := by decide +kernel
theorem dX7_readTraces_65 : decode prog_1_method_81_code 65 = .ok (.if_icmp .ge 9, 3) := by decide +kernel
theorem dX7_readTraces_68 : decode prog_1_method_81_code 68 = .ok (.iload 5, 2) := by decide +kernel
theorem dX7_readTraces_70 : decode prog_1_method_81_code 70 = .ok (.iconst 1, 1) := by decide +kernel
theorem dX7_readTraces_71 : decode prog_1_method_81_code 71 = .ok (.if_icmp .le 14, 3) := by decide +kernel
theorem dX7_readTraces_74 : decode prog_1_method_81_code 74 = .ok (.new 106, 3) := by decide +kernel
theorem dX7_readTraces_77 : decode prog_1_method_81_code 77 = .ok (.dup, 1) := by decide +kernel
theorem dX7_readTraces_78 : decode prog_1_method_81_code 78 = .ok (.ldc_w 384, 3) := by decide +kernel
theorem dX7_readTraces_81 : decode prog_1_method_81_code 81 = .ok (.invokespecial 110, 3) := by decide +kernel
theorem dX7_readTraces_84 : decode prog_1_method_81_code 84 = .ok (.athrow, 1) := by decide +kernel
theorem dX7_readTraces_85 : decode prog_1_method_81_code 85 = .ok (.iload_n 2, 1) := by decide +kernel
theorem dX7_readTraces_86 : decode prog_1_method_81_code 86 = .ok (.iconst 1, 1) := by decide +kernel
theorem dX7_readTraces_87 : decode prog_1_method_81_code 87 = .ok (.iload 5, 2) := by decide +kernel
theorem dX7_readTraces_89 : decode prog_1_method_81_code 89 = .ok (.iconst 1, 1) := by decide +kernel
theorem dX7_readTraces_90 : decode prog_1_method_81_code 90 = .ok (.if_icmp .ne 8, 3) := by decide +kernel
theorem dX7_readTraces_93 : decode prog_1_method_81_code 93 = .ok (.iload 4, 2) := by decide +kernel
theorem dX7_readTraces_95 : decode prog_1_method_81_code 95 = .ok (.goto 8, 3) := by decide +kernel
theorem dX7_readTraces_98 : decode prog_1_method_81_code 98 = .ok (.iload 4, 2) := by decide +kernel
theorem dX7_readTraces_100 : decode prog_1_method_81_code 100 = .ok (.bipush 6, 2) := by decide +kernel
theorem dX7_readTraces_102 : decode prog_1_method_81_code 102 = .ok (.iadd, 1) := by decide +kernel
theorem dX7_readTraces_103 : decode prog_1_method_81_code 103 = .ok (.ishl, 1) := by decide +kernel
theorem dX7_readTraces_104 : decode prog_1_method_81_code 104 = .ok (.ior, 1) := by decide +kernel
theorem dX7_readTraces_105 : decode prog_1_method_81_code 105 = .ok (.istore_n 2, 1) := by decide +kernel
theorem dX7_readTraces_106 : decode prog_1_method_81_code 106 = .ok (.iinc 3 2, 3) := by decide +kernel
theorem dX7_readTraces_109 : decode prog_1_method_81_code 109 = .ok (.goto (-77), 3) := by decide +kernel
theorem dX7_readTraces_112 : decode prog_1_method_81_code 112 = .ok (.iload_n 2, 1) := by decide +kernel
theorem dX7_readTraces_113 : decode prog_1_method_81_code 113 = .ok (.ireturn, 1) := by decide +kernel
theorem dX7_waysThrough_0 : decode prog_1_method_84_code 0 = .ok (.iconst 0, 1) := by decide +kernel
theorem dX7_waysThrough_1 : decode prog_1_method_84_code 1 = .ok (.istore_n 2, 1) := by decide +kernel
theorem dX7_waysThrough_2 : decode prog_1_method_84_code 2 = .ok (.iconst 0, 1) := by decide +kernel
theorem dX7_waysThrough_3 : decode prog_1_method_84_code 3 = .ok (.istore_n 3, 1) := by decide +kernel
theorem dX7_waysThrough_4 : decode prog_1_method_84_code 4 = .ok (.iload_n 3, 1) := by decide +kernel
theorem dX7_waysThrough_5 : decode prog_1_method_84_code 5 = .ok (.bipush 36, 2) := by decide +kernel
theorem dX7_waysThrough_7 : decode prog_1_method_84_code 7 = .ok (.if_icmp .ge 30, 3) := by decide +kernel
theorem dX7_waysThrough_10 : decode prog_1_method_84_code 10 = .ok (.iload_n 3, 1) := by decide +kernel
theorem dX7_waysThrough_11 : decode prog_1_method_84_code 11 = .ok (.iload_n 0, 1) := by decide +kernel
theorem dX7_waysThrough_12 : decode prog_1_method_84_code 12 = .ok (.invokestatic 319, 3) := by decide +kernel
theorem dX7_waysThrough_15 : decode prog_1_method_84_code 15 = .ok (.ifCond .eq 16, 3) := by decide +kernel
theorem dX7_waysThrough_18 : decode prog_1_method_84_code 18 = .ok (.iload_n 3, 1) := by decide +kernel
theorem dX7_waysThrough_19 : decode prog_1_method_84_code 19 = .ok (.invokestatic 323, 3) := by decide +kernel
theorem dX7_waysThrough_22 : decode prog_1_method_84_code 22 = .ok (.iload_n 1, 1) := by decide +kernel
theorem dX7_waysThrough_23 : decode prog_1_method_84_code 23 = .ok (.iand, 1) := by decide +kernel
theorem dX7_waysThrough_24 : decode prog_1_method_84_code 24 = .ok (.iload_n 1, 1) := by decide +kernel
theorem dX7_waysThrough_25 : decode prog_1_method_84_code 25 = .ok (.if_icmp .ne 6, 3) := by decide +kernel
theorem dX7_waysThrough_28 : decode prog_1_method_84_code 28 = .ok (.iinc 2 1, 3) := by decide +kernel
theorem dX7_waysThrough_31 : decode prog_1_method_84_code 31 = .ok (.iinc 3 1, 3) := by decide +kernel
theorem dX7_waysThrough_34 : decode prog_1_method_84_code 34 = .ok (.goto (-30), 3) := by decide +kernel
theorem dX7_waysThrough_37 : decode prog_1_method_84_code 37 = .ok (.iload_n 2, 1) := by decide +kernel
theorem dX7_waysThrough_38 : decode prog_1_method_84_code 38 = .ok (.ireturn, 1) := by decide +kernel
theorem dX7_fits_0 : decode prog_1_method_83_code 0 = .ok (.iload_n 1, 1) := by decide +kernel
theorem dX7_fits_1 : decode prog_1_method_83_code 1 = .ok (.bipush 63, 2) := by decide +kernel
theorem dX7_fits_3 : decode prog_1_method_83_code 3 = .ok (.iand, 1) := by decide +kernel
theorem dX7_fits_4 : decode prog_1_method_83_code 4 = .ok (.istore_n 2, 1) := by decide +kernel
theorem dX7_fits_5 : decode prog_1_method_83_code 5 = .ok (.iload_n 1, 1) := by decide +kernel
theorem dX7_fits_6 : decode prog_1_method_83_code 6 = .ok (.bipush 6, 2) := by decide +kernel
theorem dX7_fits_8 : decode prog_1_method_83_code 8 = .ok (.ishr, 1) := by decide +kernel
theorem dX7_fits_9 : decode prog_1_method_83_code 9 = .ok (.bipush 63, 2) := by decide +kernel
theorem dX7_fits_11 : decode prog_1_method_83_code 11 = .ok (.iand, 1) := by decide +kernel
theorem dX7_fits_12 : decode prog_1_method_83_code 12 = .ok (.istore_n 3, 1) := by decide +kernel
theorem dX7_fits_13 : decode prog_1_method_83_code 13 = .ok (.iload_n 0, 1) := by decide +kernel
theorem dX7_fits_14 : decode prog_1_method_83_code 14 = .ok (.invokestatic 323, 3) := by decide +kernel
theorem dX7_fits_17 : decode prog_1_method_83_code 17 = .ok (.istore 4, 2) := by decide +kernel
theorem dX7_fits_19 : decode prog_1_method_83_code 19 = .ok (.iload 4, 2) := by decide +kernel
theorem dX7_fits_21 : decode prog_1_method_83_code 21 = .ok (.iload_n 2, 1) := by decide +kernel
theorem dX7_fits_22 : decode prog_1_method_83_code 22 = .ok (.iand, 1) := by decide +kernel
theorem dX7_fits_23 : decode prog_1_method_83_code 23 = .ok (.iload_n 2, 1) := by decide +kernel
theorem dX7_fits_24 : decode prog_1_method_83_code 24 = .ok (.if_icmp .ne 14, 3) := by decide +kernel
theorem dX7_fits_27 : decode prog_1_method_83_code 27 = .ok (.iload 4, 2) := by decide +kernel
theorem dX7_fits_29 : decode prog_1_method_83_code 29 = .ok (.iload_n 3, 1) := by decide +kernel
theorem dX7_fits_30 : decode prog_1_method_83_code 30 = .ok (.iand, 1) := by decide +kernel
theorem dX7_fits_31 : decode prog_1_method_83_code 31 = .ok (.ifCond .ne 7, 3) := by decide +kernel
theorem dX7_fits_34 : decode prog_1_method_83_code 34 = .ok (.iconst 1, 1) := by decide +kernel
theorem dX7_fits_35 : decode prog_1_method_83_code 35 = .ok (.goto 4, 3) := by decide +kernel
theorem dX7_fits_38 : decode prog_1_method_83_code 38 = .ok (.iconst 0, 1) := by decide +kernel
theorem dX7_fits_39 : decode prog_1_method_83_code 39 = .ok (.ireturn, 1) := by decide +kernel
theorem dX7_roomsOf_0 : decode prog_1_method_82_code 0 = .ok (.iload_n 0, 1) := by decide +kernel
theorem dX7_roomsOf_1 : decode prog_1_method_82_code 1 = .ok (.bipush 6, 2) := by decide +kernel
theorem dX7_roomsOf_3 : decode prog_1_method_82_code 3 = .ok (.irem, 1) := by decide +kernel
theorem dX7_roomsOf_4 : decode prog_1_method_82_code 4 = .ok (.istore_n 1, 1) := by decide +kernel
theorem dX7_roomsOf_5 : decode prog_1_method_82_code 5 = .ok (.iload_n 0, 1) := by decide +kernel
theorem dX7_roomsOf_6 : decode prog_1_method_82_code 6 = .ok (.bipush 6, 2) := by decide +kernel
theorem dX7_roomsOf_8 : decode prog_1_method_82_code 8 = .ok (.idiv, 1) := by decide +kernel
theorem dX7_roomsOf_9 : decode prog_1_method_82_code 9 = .ok (.istore_n 2, 1) := by decide +kernel
theorem dX7_roomsOf_10 : decode prog_1_method_82_code 10 = .ok (.iconst 1, 1) := by decide +kernel
theorem dX7_roomsOf_11 : decode prog_1_method_82_code 11 = .ok (.iload_n 2, 1) := by decide +kernel
theorem dX7_roomsOf_12 : decode prog_1_method_82_code 12 = .ok (.ishl, 1) := by decide +kernel
theorem dX7_roomsOf_13 : decode prog_1_method_82_code 13 = .ok (.istore_n 3, 1) := by decide +kernel
theorem dX7_roomsOf_14 : decode prog_1_method_82_code 14 = .ok (.iconst 0, 1) := by decide +kernel
theorem dX7_roomsOf_15 : decode prog_1_method_82_code 15 = .ok (.istore 4, 2) := by decide +kernel
theorem dX7_roomsOf_17 : decode prog_1_method_82_code 17 = .ok (.iload 4, 2) := by decide +kernel
theorem dX7_roomsOf_19 : decode prog_1_method_82_code 19 = .ok (.bipush 6, 2) := by decide +kernel
theorem dX7_roomsOf_21 : decode prog_1_method_82_code 21 = .ok (.if_icmp .ge 27, 3) := by decide +kernel
theorem dX7_roomsOf_24 : decode prog_1_method_82_code 24 = .ok (.iload_n 2, 1) := by decide +kernel
theorem dX7_roomsOf_25 : decode prog_1_method_82_code 25 = .ok (.iload_n 1, 1) := by decide +kernel
theorem dX7_roomsOf_26 : decode prog_1_method_82_code 26 = .ok (.if_icmp .eq 22, 3) := by decide +kernel
theorem dX7_roomsOf_29 : decode prog_1_method_82_code 29 = .ok (.iload_n 2, 1) := by decide +kernel
theorem dX7_roomsOf_30 : decode prog_1_method_82_code 30 = .ok (.iconst 1, 1) := by decide +kernel
theorem dX7_roomsOf_31 : decode prog_1_method_82_code 31 = .ok (.iadd, 1) := by decide +kernel
theorem dX7_roomsOf_32 : decode prog_1_method_82_code 32 = .ok (.bipush 6, 2) := by decide +kernel
theorem dX7_roomsOf_34 : decode prog_1_method_82_code 34 = .ok (.irem, 1) := by decide +kernel
theorem dX7_roomsOf_35 : decode prog_1_method_82_code 35 = .ok (.istore_n 2, 1) := by decide +kernel
theorem dX7_roomsOf_36 : decode prog_1_method_82_code 36 = .ok (.iload_n 3, 1) := by decide +kernel
theorem dX7_roomsOf_37 : decode prog_1_method_82_code 37 = .ok (.iconst 1, 1) := by decide +kernel
theorem dX7_roomsOf_38 : decode prog_1_method_82_code 38 = .ok (.iload_n 2, 1) := by decide +kernel
theorem dX7_roomsOf_39 : decode prog_1_method_82_code 39 = .ok (.ishl, 1) := by decide +kernel
theorem dX7_roomsOf_40 : decode prog_1_method_82_code 40 = .ok (.ior, 1) := by decide +kernel
theorem dX7_roomsOf_41 : decode prog_1_method_82_code 41 = .ok (.istore_n 3, 1) := by decide +kernel
theorem dX7_roomsOf_42 : decode prog_1_method_82_code 42 = .ok (.iinc 4 1, 3) := by decide +kernel
theorem dX7_roomsOf_45 : decode prog_1_method_82_code 45 = .ok (.goto (-28), 3) := by decide +kernel
theorem dX7_roomsOf_48 : decode prog_1_method_82_code 48 = .ok (.iload_n 3, 1) := by decide +kernel
theorem dX7_roomsOf_49 : decode prog_1_method_82_code 49 = .ok (.ireturn, 1) := by decide +kernel
theorem dX7_look_0 : decode prog_1_method_45_code 0 = .ok (.aload_n 0, 1) := by decide +kernel
theorem dX7_look_1 : decode prog_1_method_45_code 1 = .ok (.invokevirtual 313, 3) := by decide +kernel
theorem dX7_look_4 : decode prog_1_method_45_code 4 = .ok (.istore_n 1, 1) := by decide +kernel
theorem dX7_look_5 : decode prog_1_method_45_code 5 = .ok (.iload_n 1, 1) := by decide +kernel
theorem dX7_look_6 : decode prog_1_method_45_code 6 = .ok (.iconst 0, 1) := by decide +kernel
theorem dX7_look_7 : decode prog_1_method_45_code 7 = .ok (.invokestatic 316, 3) := by decide +kernel
theorem dX7_look_10 : decode prog_1_method_45_code 10 = .ok (.istore_n 2, 1) := by decide +kernel
theorem dX7_look_11 : decode prog_1_method_45_code 11 = .ok (.iload_n 2, 1) := by decide +kernel
theorem dX7_look_12 : decode prog_1_method_45_code 12 = .ok (.iconst 2, 1) := by decide +kernel
theorem dX7_look_13 : decode prog_1_method_45_code 13 = .ok (.if_icmp .ge 5, 3) := by decide +kernel
theorem dX7_look_16 : decode prog_1_method_45_code 16 = .ok (.iconst (-1), 1) := by decide +kernel
theorem dX7_look_17 : decode prog_1_method_45_code 17 = .ok (.ireturn, 1) := by decide +kernel
theorem dX7_look_18 : decode prog_1_method_45_code 18 = .ok (.iconst (-1), 1) := by decide +kernel
theorem dX7_look_19 : decode prog_1_method_45_code 19 = .ok (.istore_n 3, 1) := by decide +kernel
theorem dX7_look_20 : decode prog_1_method_45_code 20 = .ok (.iload_n 2, 1) := by decide +kernel
theorem dX7_look_21 : decode prog_1_method_45_code 21 = .ok (.iconst 1, 1) := by decide +kernel
theorem dX7_look_22 : decode prog_1_method_45_code 22 = .ok (.iadd, 1) := by decide +kernel
theorem dX7_look_23 : decode prog_1_method_45_code 23 = .ok (.istore 4, 2) := by decide +kernel
theorem dX7_look_25 : decode prog_1_method_45_code 25 = .ok (.iconst 0, 1) := by decide +kernel
theorem dX7_look_26 : decode prog_1_method_45_code 26 = .ok (.istore 5, 2) := by decide +kernel
theorem dX7_look_28 : decode prog_1_method_45_code 28 = .ok (.iload 5, 2) := by decide +kernel
theorem dX7_look_30 : decode prog_1_method_45_code 30 = .ok (.bipush 6, 2) := by decide +kernel
theorem dX7_look_32 : decode prog_1_method_45_code 32 = .ok (.if_icmp .ge 44, 3) := by decide +kernel
theorem dX7_look_35 : decode prog_1_method_45_code 35 = .ok (.iload_n 1, 1) := by decide +kernel
theorem dX7_look_36 : decode prog_1_method_45_code 36 = .ok (.iconst 1, 1) := by decide +kernel
theorem dX7_look_37 : decode prog_1_method_45_code 37 = .ok (.iload 5, 2) := by decide +kernel
theorem dX7_look_39 : decode prog_1_method_45_code 39 = .ok (.ishl, 1) := by decide +kernel
theorem dX7_look_40 : decode prog_1_method_45_code 40 = .ok (.invokestatic 316, 3) := by decide +kernel
theorem dX7_look_43 : decode prog_1_method_45_code 43 = .ok (.istore 6, 2) := by decide +kernel
theorem dX7_look_45 : decode prog_1_method_45_code 45 = .ok (.iload 6, 2) := by decide +kernel
theorem dX7_look_47 : decode prog_1_method_45_code 47 = .ok (.iload_n 2, 1) := by decide +kernel
theorem dX7_look_48 : decode prog_1_method_45_code 48 = .ok (.iload 6, 2) := by decide +kernel
theorem dX7_look_50 : decode prog_1_method_45_code 50 = .ok (.isub, 1) := by decide +kernel
theorem dX7_look_51 : decode prog_1_method_45_code 51 = .ok (.invokestatic 215, 3) := by decide +kernel
theorem dX7_look_54 : decode prog_1_method_45_code 54 = .ok (.istore 7, 2) := by decide +kernel
theorem dX7_look_56 : decode prog_1_method_45_code 56 = .ok (.iload 7, 2) := by decide +kernel
theorem dX7_look_58 : decode prog_1_method_45_code 58 = .ok (.iload 4, 2) := by decide +kernel
theorem dX7_look_60 : decode prog_1_method_45_code 60 = .ok (.if_icmp .ge 10, 3) := by decide +kernel
theorem dX7_look_63 : decode prog_1_method_45_code 63 = .ok (.iload 5, 2) := by decide +kernel
theorem dX7_look_65 : decode prog_1_method_45_code 65 = .ok (.istore_n 3, 1) := by decide +kernel
theorem dX7_look_66 : decode prog_1_method_45_code 66 = .ok (.iload 7, 2) := by decide +kernel
theorem dX7_look_68 : decode prog_1_method_45_code 68 = .ok (.istore 4, 2) := by decide +kernel
theorem dX7_look_70 : decode prog_1_method_45_code 70 = .ok (.iinc 5 1, 3) := by decide +kernel
theorem dX7_look_73 : decode prog_1_method_45_code 73 = .ok (.goto (-45), 3) := by decide +kernel
theorem dX7_look_76 : decode prog_1_method_45_code 76 = .ok (.iload_n 3, 1) := by decide +kernel
theorem dX7_look_77 : decode prog_1_method_45_code 77 = .ok (.ireturn, 1) := by decide +kernel
theorem dX7_trial_0 : decode prog_1_method_47_code 0 = .ok (.iload_n 1, 1) := by decide +kernel
theorem dX7_trial_1 : decode prog_1_method_47_code 1 = .ok (.iconst 0, 1) := by decide +kernel
theorem dX7_trial_2 : decode prog_1_method_47_code 2 = .ok (.sipush 400, 3) := by decide +kernel
theorem dX7_trial_5 : decode prog_1_method_47_code 5 = .ok (.invokestatic 220, 3) := by decide +kernel
theorem dX7_trial_8 : decode prog_1_method_47_code 8 = .ok (.aload_n 0, 1) := by decide +kernel
theorem dX7_trial_9 : decode prog_1_method_47_code 9 = .ok (.iload_n 1, 1) := by decide +kernel
theorem dX7_trial_10 : decode prog_1_method_47_code 10 = .ok (.aload_n 0, 1) := by decide +kernel
theorem dX7_trial_11 : decode prog_1_method_47_code 11 = .ok (.getfield 37, 3) := by decide +kernel
theorem dX7_trial_14 : decode prog_1_method_47_code 14 = .ok (.getfield 326, 3) := by decide +kernel
theorem dX7_trial_17 : decode prog_1_method_47_code 17 = .ok (.invokevirtual 329, 3) := by decide +kernel
theorem dX7_trial_20 : decode prog_1_method_47_code 20 = .ok (.iload_n 2, 1) := by decide +kernel
theorem dX7_trial_21 : decode prog_1_method_47_code 21 = .ok (.ifCond .eq 17, 3) := by decide +kernel
theorem dX7_trial_24 : decode prog_1_method_47_code 24 = .ok (.aload_n 0, 1) := by decide +kernel
theorem dX7_trial_25 : decode prog_1_method_47_code 25 = .ok (.getfield 41, 3) := by decide +kernel
theorem dX7_trial_28 : decode prog_1_method_47_code 28 = .ok (.getfield 188, 3) := by decide +kernel
theorem dX7_trial_31 : decode prog_1_method_47_code 31 = .ok (.iconst 2, 1) := by decide +kernel
theorem dX7_trial_32 : decode prog_1_method_47_code 32 = .ok (.invokestatic 304, 3) := by decide +kernel
theorem dX7_trial_35 : decode prog_1_method_47_code 35 = .ok (.goto 20, 3) := by decide +kernel
theorem dX7_trial_38 : decode prog_1_method_47_code 38 = .ok (.aload_n 0, 1) := by decide +kernel
theorem dX7_trial_39 : decode prog_1_method_47_code 39 = .ok (.getfield 41, 3) := by decide +kernel
theorem dX7_trial_42 : decode prog_1_method_47_code 42 = .ok (.getfield 144, 3) := by decide +kernel
theorem dX7_trial_45 : decode prog_1_method_47_code 45 = .ok (.aload_n 0, 1) := by decide +kernel
theorem dX7_trial_46 : decode prog_1_method_47_code 46 = .ok (.getfield 41, 3) := by decide +kernel
theorem dX7_trial_49 : decode prog_1_method_47_code 49 = .ok (.getfield 242, 3) := by decide +kernel
theorem dX7_trial_52 : decode prog_1_method_47_code 52 = .ok (.invokestatic 304, 3) := by decide +kernel
theorem dX7_trial_55 : decode prog_1_method_47_code 55 = .ok (.ireturn, 1) := by decide +kernel
theorem dX7_tryDays_0 : decode prog_1_method_69_code 0 = .ok (.aload_n 0, 1) := by decide +kernel
theorem dX7_tryDays_1 : decode prog_1_method_69_code 1 = .ok (.getfield 41, 3) := by decide +kernel
theorem dX7_tryDays_4 : decode prog_1_method_69_code 4 = .ok (.aload_n 0, 1) := by decide +kernel
theorem dX7_tryDays_5 : decode prog_1_method_69_code 5 = .ok (.getfield 37, 3) := by decide +kernel
theorem dX7_tryDays_8 : decode prog_1_method_69_code 8 = .ok (.invokevirtual 94, 3) := by decide +kernel
theorem dX7_tryDays_11 : decode prog_1_method_69_code 11 = .ok (.aload_n 0, 1) := by decide +kernel
theorem dX7_tryDays_12 : decode prog_1_method_69_code 12 = .ok (.getfield 41, 3) := by decide +kernel
theorem dX7_tryDays_15 : decode prog_1_method_69_code 15 = .ok (.iload_n 2, 1) := by decide +kernel
theorem dX7_tryDays_16 : decode prog_1_method_69_code 16 = .ok (.putfield 326, 3) := by decide +kernel
theorem dX7_tryDays_19 : decode prog_1_method_69_code 19 = .ok (.iconst 0, 1) := by decide +kernel
theorem dX7_tryDays_20 : decode prog_1_method_69_code 20 = .ok (.istore_n 3, 1) := by decide +kernel
theorem dX7_tryDays_21 : decode prog_1_method_69_code 21 = .ok (.iload_n 3, 1) := by decide +kernel
theorem dX7_tryDays_22 : decode prog_1_method_69_code 22 = .ok (.iload_n 1, 1) := by decide +kernel
theorem dX7_tryDays_23 : decode prog_1_method_69_code 23 = .ok (.if_icmp .ge 22, 3) := by decide +kernel
theorem dX7_tryDays_26 : decode prog_1_method_69_code 26 = .ok (.aload_n 0, 1) := by decide +kernel
theorem dX7_tryDays_27 : decode prog_1_method_69_code 27 = .ok (.getfield 41, 3) := by decide +kernel
theorem dX7_tryDays_30 : decode prog_1_method_69_code 30 = .ok (.aload_n 0, 1) := by decide +kernel
theorem dX7_tryDays_31 : decode prog_1_method_69_code 31 = .ok (.getfield 47, 3) := by decide +kernel
theorem dX7_tryDays_34 : decode prog_1_method_69_code 34 = .ok (.iconst 1, 1) := by decide +kernel
theorem dX7_tryDays_35 : decode prog_1_method_69_code 35 = .ok (.invokevirtual 235, 3) := by decide +kernel
theorem dX7_tryDays_38 : decode prog_1_method_69_code 38 = .ok (.pop, 1) := by decide +kernel
theorem dX7_tryDays_39 : decode prog_1_method_69_code 39 = .ok (.iinc 3 1, 3) := by decide +kernel
theorem dX7_tryDays_42 : decode prog_1_method_69_code 42 = .ok (.goto (-21), 3) := by decide +kernel
theorem dX7_tryDays_45 : decode prog_1_method_69_code 45 = .ok (.return_, 1) := by decide +kernel
theorem dX7_span_0 : decode prog_1_method_48_code 0 = .ok (.iload_n 1, 1) := by decide +kernel
theorem dX7_span_1 : decode prog_1_method_48_code 1 = .ok (.iconst 0, 1) := by decide +kernel
theorem dX7_span_2 : decode prog_1_method_48_code 2 = .ok (.sipush 400, 3) := by decide +kernel
theorem dX7_span_5 : decode prog_1_method_48_code 5 = .ok (.invokestatic 220, 3) := by decide +kernel
theorem dX7_span_8 : decode prog_1_method_48_code 8 = .ok (.aload_n 0, 1) := by decide +kernel
theorem dX7_span_9 : decode prog_1_method_48_code 9 = .ok (.iload_n 1, 1) := by decide +kernel
theorem dX7_span_10 : decode prog_1_method_48_code 10 = .ok (.iconst 1, 1) := by decide +kernel
theorem dX7_span_11 : decode prog_1_method_48_code 11 = .ok (.invokevirtual 329, 3) := by decide +kernel
theorem dX7_span_14 : decode prog_1_method_48_code 14 = .ok (.aload_n 0, 1) := by decide +kernel
theorem dX7_span_15 : decode prog_1_method_48_code 15 = .ok (.getfield 41, 3) := by decide +kernel
theorem dX7_span_18 : decode prog_1_method_48_code 18 = .ok (.getfield 144, 3) := by decide +kernel
theorem dX7_span_21 : decode prog_1_method_48_code 21 = .ok (.aload_n 0, 1) := by decide +kernel
theorem dX7_span_22 : decode prog_1_method_48_code 22 = .ok (.getfield 41, 3) := by decide +kernel
theorem dX7_span_25 : decode prog_1_method_48_code 25 = .ok (.getfield 242, 3) := by decide +kernel
theorem dX7_span_28 : decode prog_1_method_48_code 28 = .ok (.invokestatic 304, 3) := by decide +kernel
theorem dX7_span_31 : decode prog_1_method_48_code 31 = .ok (.istore_n 3, 1) := by decide +kernel
theorem dX7_span_32 : decode prog_1_method_48_code 32 = .ok (.iconst 2, 1) := by decide +kernel
theorem dX7_span_33 : decode prog_1_method_48_code 33 = .ok (.istore 4, 2) := by decide +kernel
theorem dX7_span_35 : decode prog_1_method_48_code 35 = .ok (.iload 4, 2) := by decide +kernel
theorem dX7_span_37 : decode prog_1_method_48_code 37 = .ok (.bipush 6, 2) := by decide +kernel
theorem dX7_span_39 : decode prog_1_method_48_code 39 = .ok (.if_icmp .gt 55, 3) := by decide +kernel
theorem dX7_span_42 : decode prog_1_method_48_code 42 = .ok (.aload_n 0, 1) := by decide +kernel
theorem dX7_span_43 : decode prog_1_method_48_code 43 = .ok (.iload_n 1, 1) := by decide +kernel
theorem dX7_span_44 : decode prog_1_method_48_code 44 = .ok (.iload 4, 2) := by decide +kernel
theorem dX7_span_46 : decode prog_1_method_48_code 46 = .ok (.invokevirtual 329, 3) := by decide +kernel
theorem dX7_span_49 : decode prog_1_method_48_code 49 = .ok (.aload_n 0, 1) := by decide +kernel
theorem dX7_span_50 : decode prog_1_method_48_code 50 = .ok (.getfield 41, 3) := by decide +kernel
theorem dX7_span_53 : decode prog_1_method_48_code 53 = .ok (.getfield 144, 3) := by decide +kernel
theorem dX7_span_56 : decode prog_1_method_48_code 56 = .ok (.aload_n 0, 1) := by decide +kernel
theorem dX7_span_57 : decode prog_1_method_48_code 57 = .ok (.getfield 41, 3) := by decide +kernel
theorem dX7_span_60 : decode prog_1_method_48_code 60 = .ok (.getfield 242, 3) := by decide +kernel
theorem dX7_span_63 : decode prog_1_method_48_code 63 = .ok (.invokestatic 304, 3) := by decide +kernel
theorem dX7_span_66 : decode prog_1_method_48_code 66 = .ok (.istore 5, 2) := by decide +kernel
theorem dX7_span_68 : decode prog_1_method_48_code 68 = .ok (.iload_n 2, 1) := by decide +kernel
theorem dX7_span_69 : decode prog_1_method_48_code 69 = .ok (.ifCond .eq 12, 3) := by decide +kernel
theorem dX7_span_72 : decode prog_1_method_48_code 72 = .ok (.iload_n 3, 1) := by decide +kernel
theorem dX7_span_73 : decode prog_1_method_48_code 73 = .ok (.iload 5, 2) := by decide +kernel
theorem dX7_span_75 : decode prog_1_method_48_code 75 = .ok (.invokestatic 215, 3) := by decide +kernel
theorem dX7_span_78 : decode prog_1_method_48_code 78 = .ok (.goto 9, 3) := by decide +kernel
theorem dX7_span_81 : decode prog_1_method_48_code 81 = .ok (.iload_n 3, 1) := by decide +kernel
theorem dX7_span_82 : decode prog_1_method_48_code 82 = .ok (.iload 5, 2) := by decide +kernel
theorem dX7_span_84 : decode prog_1_method_48_code 84 = .ok (.invokestatic 332, 3) := by decide +kernel
theorem dX7_span_87 : decode prog_1_method_48_code 87 = .ok (.istore_n 3, 1) := by decide +kernel
theorem dX7_span_88 : decode prog_1_method_48_code 88 = .ok (.iinc 4 1, 3) := by decide +kernel
theorem dX7_span_91 : decode prog_1_method_48_code 91 = .ok (.goto (-56), 3) := by decide +kernel
theorem dX7_span_94 : decode prog_1_method_48_code 94 = .ok (.iload_n 3, 1) := by decide +kernel
theorem dX7_span_95 : decode prog_1_method_48_code 95 = .ok (.ireturn, 1) := by decide +kernel
theorem dX7_led_0 : decode prog_1_method_49_code 0 = .ok (.iload_n 1, 1) := by decide +kernel
theorem dX7_led_1 : decode prog_1_method_49_code 1 = .ok (.invokestatic 182, 3) := by decide +kernel
theorem dX7_led_4 : decode prog_1_method_49_code 4 = .ok (.iconst 0, 1) := by decide +kernel
theorem dX7_led_5 : decode prog_1_method_49_code 5 = .ok (.istore_n 3, 1) := by decide +kernel
theorem dX7_led_6 : decode prog_1_method_49_code 6 = .ok (.iconst 0, 1) := by decide +kernel
theorem dX7_led_7 : decode prog_1_method_49_code 7 = .ok (.istore 4, 2) := by decide +kernel
theorem dX7_led_9 : decode prog_1_method_49_code 9 = .ok (.iconst 0, 1) := by decide +kernel
theorem dX7_led_10 : decode prog_1_method_49_code 10 = .ok (.istore 5, 2) := by decide +kernel
theorem dX7_led_12 : decode prog_1_method_49_code 12 = .ok (.iload 5, 2) := by decide +kernel
theorem dX7_led_14 : decode prog_1_method_49_code 14 = .ok (.aload_n 0, 1) := by decide +kernel
theorem dX7_led_15 : decode prog_1_method_49_code 15 = .ok (.getfield 37, 3) := by decide +kernel
theorem dX7_led_18 : decode prog_1_method_49_code 18 = .ok (.getfield 335, 3) := by decide +kernel
theorem dX7_led_21 : decode prog_1_method_49_code 21 = .ok (.getfield 339, 3) := by decide +kernel
theorem dX7_led_24 : decode prog_1_method_49_code 24 = .ok (.if_icmp .ge 47, 3) := by decide +kernel
theorem dX7_led_27 : decode prog_1_method_49_code 27 = .ok (.aload_n 0, 1) := by decide +kernel
theorem dX7_led_28 : decode prog_1_method_49_code 28 = .ok (.getfield 37, 3) := by decide +kernel
theorem dX7_led_31 : decode prog_1_method_49_code 31 = .ok (.getfield 335, 3) := by decide +kernel
theorem dX7_led_34 : decode prog_1_method_49_code 34 = .ok (.iload 5, 2) := by decide +kernel
theorem dX7_led_36 : decode prog_1_method_49_code 36 = .ok (.iconst 1, 1) := by decide +kernel
theorem dX7_led_37 : decode prog_1_method_49_code 37 = .ok (.invokevirtual 344, 3) := by decide +kernel
theorem dX7_led_40 : decode prog_1_method_49_code 40 = .ok (.iload_n 1, 1) := by decide +kernel
theorem dX7_led_41 : decode prog_1_method_49_code 41 = .ok (.if_icmp .ne 24, 3) := by decide +kernel
theorem dX7_led_44 : decode prog_1_method_49_code 44 = .ok (.iinc 3 1, 3) := by decide +kernel
theorem dX7_led_47 : decode prog_1_method_49_code 47 = .ok (.iload 4, 2) := by decide +kernel
theorem dX7_led_49 : decode prog_1_method_49_code 49 = .ok (.aload_n 0, 1) := by decide +kernel
theorem dX7_led_50 : decode prog_1_method_49_code 50 = .ok (.getfield 37, 3) := by decide +kernel
theorem dX7_led_53 : decode prog_1_method_49_code 53 = .ok (.getfield 335, 3) := by decide +kernel
theorem dX7_led_56 : decode prog_1_method_49_code 56 = .ok (.iload 5, 2) := by decide +kernel
theorem dX7_led_58 : decode prog_1_method_49_code 58 = .ok (.iconst 3, 1) := by decide +kernel
theorem dX7_led_59 : decode prog_1_method_49_code 59 = .ok (.invokevirtual 344, 3) := by decide +kernel
theorem dX7_led_62 : decode prog_1_method_49_code 62 = .ok (.iadd, 1) := by decide +kernel
theorem dX7_led_63 : decode prog_1_method_49_code 63 = .ok (.istore 4, 2) := by decide +kernel
theorem dX7_led_65 : decode prog_1_method_49_code 65 = .ok (.iinc 5 1, 3) := by decide +kernel
theorem dX7_led_68 : decode prog_1_method_49_code 68 = .ok (.goto (-56), 3) := by decide +kernel
theorem dX7_led_71 : decode prog_1_method_49_code 71 = .ok (.iload_n 2, 1) := by decide +kernel
theorem dX7_led_72 : decode prog_1_method_49_code 72 = .ok (.ifCond .eq 8, 3) := by decide +kernel
theorem dX7_led_75 : decode prog_1_method_49_code 75 = .ok (.iload 4, 2) := by decide +kernel
theorem dX7_led_77 : decode prog_1_method_49_code 77 = .ok (.goto 4, 3) := by decide +kernel
theorem dX7_led_80 : decode prog_1_method_49_code 80 = .ok (.iload_n 3, 1) := by decide +kernel
theorem dX7_led_81 : decode prog_1_method_49_code 81 = .ok (.ireturn, 1) := by decide +kernel
theorem dX7_log_0 : decode prog_1_method_50_code 0 = .ok (.iload_n 2, 1) := by decide +kernel
theorem dX7_log_1 : decode prog_1_method_50_code 1 = .ok (.iconst 3, 1) := by decide +kernel
theorem dX7_log_2 : decode prog_1_method_50_code 2 = .ok (.invokestatic 130, 3) := by decide +kernel
theorem dX7_log_5 : decode prog_1_method_50_code 5 = .ok (.iload_n 1, 1) := by decide +kernel
theorem dX7_log_6 : decode prog_1_method_50_code 6 = .ok (.ifCond .lt 17, 3) := by decide +kernel
theorem dX7_log_9 : decode prog_1_method_50_code 9 = .ok (.iload_n 1, 1) := by decide +kernel
theorem dX7_log_10 : decode prog_1_method_50_code 10 = .ok (.aload_n 0, 1) := by decide +kernel
theorem dX7_log_11 : decode prog_1_method_50_code 11 = .ok (.getfield 37, 3) := by decide +kernel
theorem dX7_log_14 : decode prog_1_method_50_code 14 = .ok (.getfield 335, 3) := by decide +kernel
theorem dX7_log_17 : decode prog_1_method_50_code 17 = .ok (.getfield 339, 3) := by decide +kernel
theorem dX7_log_20 : decode prog_1_method_50_code 20 = .ok (.if_icmp .lt 5, 3) := by decide +kernel
theorem dX7_log_23 : decode prog_1_method_50_code 23 = .ok (.iconst (-1), 1) := by decide +kernel
theorem dX7_log_24 : decode prog_1_method_50_code 24 = .ok (.ireturn, 1) := by decide +kernel
theorem dX7_log_25 : decode prog_1_method_50_code 25 = .ok (.aload_n 0, 1) := by decide +kernel
theorem dX7_log_26 : decode prog_1_method_50_code 26 = .ok (.getfield 37, 3) := by decide +kernel
theorem dX7_log_29 : decode prog_1_method_50_code 29 = .ok (.getfield 335, 3) := by decide +kernel
theorem dX7_log_32 : decode prog_1_method_50_code 32 = .ok (.iload_n 1, 1) := by decide +kernel
theorem dX7_log_33 : decode prog_1_method_50_code 33 = .ok (.iload_n 2, 1) := by decide +kernel
theorem dX7_log_34 : decode prog_1_method_50_code 34 = .ok (.invokevirtual 344, 3) := by decide +kernel
theorem dX7_log_37 : decode prog_1_method_50_code 37 = .ok (.ireturn, 1) := by decide +kernel
