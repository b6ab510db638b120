/-! decode rows, by program -/
theorem dX5_init_0 : decode prog_7_method_1_code 0 = .ok (.aload_n 0, 1) := by decide +kernel
theorem dX5_init_1 : decode prog_7_method_1_code 1 = .ok (.invokespecial 3, 3) := by decide +kernel
theorem dX5_init_4 : decode prog_7_method_1_code 4 = .ok (.aload_n 0, 1) := by decide +kernel
theorem dX5_init_5 : decode prog_7_method_1_code 5 = .ok (.sipush 400, 3) := by decide +kernel
theorem dX5_init_8 : decode prog_7_method_1_code 8 = .ok (.newarray .int, 2) := by decide +kernel
theorem dX5_init_10 : decode prog_7_method_1_code 10 = .ok (.putfield 9, 3) := by decide +kernel
theorem dX5_init_13 : decode prog_7_method_1_code 13 = .ok (.aload_n 0, 1) := by decide +kernel
theorem dX5_init_14 : decode prog_7_method_1_code 14 = .ok (.iconst 0, 1) := by decide +kernel
theorem dX5_init_15 : decode prog_7_method_1_code 15 = .ok (.putfield 15, 3) := by decide +kernel
theorem dX5_init_18 : decode prog_7_method_1_code 18 = .ok (.aload_n 0, 1) := by decide +kernel
theorem dX5_init_19 : decode prog_7_method_1_code 19 = .ok (.iconst 0, 1) := by decide +kernel
theorem dX5_init_20 : decode prog_7_method_1_code 20 = .ok (.putfield 19, 3) := by decide +kernel
theorem dX5_init_23 : decode prog_7_method_1_code 23 = .ok (.aload_n 0, 1) := by decide +kernel
theorem dX5_init_24 : decode prog_7_method_1_code 24 = .ok (.iconst 0, 1) := by decide +kernel
theorem dX5_init_25 : decode prog_7_method_1_code 25 = .ok (.putfield 22, 3) := by decide +kernel
theorem dX5_init_28 : decode prog_7_method_1_code 28 = .ok (.aload_n 0, 1) := by decide +kernel
theorem dX5_init_29 : decode prog_7_method_1_code 29 = .ok (.iconst (-1), 1) := by decide +kernel
theorem dX5_init_30 : decode prog_7_method_1_code 30 = .ok (.putfield 25, 3) := by decide +kernel
theorem dX5_init_33 : decode prog_7_method_1_code 33 = .ok (.return_, 1) := by decide +kernel
theorem dX1_init_0 : decode prog_3_method_1_code 0 = .ok (.aload_n 0, 1) := by decide +kernel
theorem dX1_init_1 : decode prog_3_method_1_code 1 = .ok (.invokespecial 3, 3) := by decide +kernel
theorem dX1_init_4 : decode prog_3_method_1_code 4 = .ok (.aload_n 0, 1) := by decide +kernel
theorem dX1_init_5 : decode prog_3_method_1_code 5 = .ok (.bipush 12, 2) := by decide +kernel
theorem dX1_init_7 : decode prog_3_method_1_code 7 = .ok (.newarray .int, 2) := by decide +kernel
theorem dX1_init_9 : decode prog_3_method_1_code 9 = .ok (.putfield 9, 3) := by decide +kernel
theorem dX1_init_12 : decode prog_3_method_1_code 12 = .ok (.aload_n 0, 1) := by decide +kernel
theorem dX1_init_13 : decode prog_3_method_1_code 13 = .ok (.bipush 12, 2) := by decide +kernel
theorem dX1_init_15 : decode prog_3_method_1_code 15 = .ok (.newarray .int, 2) := by decide +kernel
theorem dX1_init_17 : decode prog_3_method_1_code 17 = .ok (.putfield 15, 3) := by decide +kernel
theorem dX1_init_20 : decode prog_3_method_1_code 20 = .ok (.aload_n 0, 1) := by decide +kernel
theorem dX1_init_21 : decode prog_3_method_1_code 21 = .ok (.bipush 12, 2) := by decide +kernel
theorem dX1_init_23 : decode prog_3_method_1_code 23 = .ok (.newarray .int, 2) := by decide +kernel
theorem dX1_init_25 : decode prog_3_method_1_code 25 = .ok (.putfield 18, 3) := by decide +kernel
theorem dX1_init_28 : decode prog_3_method_1_code 28 = .ok (.aload_n 0, 1) := by decide +kernel
theorem dX1_init_29 : decode prog_3_method_1_code 29 = .ok (.bipush 12, 2) := by decide +kernel
theorem dX1_init_31 : decode prog_3_method_1_code 31 = .ok (.newarray .int, 2) := by decide +kernel
theorem dX1_init_33 : decode prog_3_method_1_code 33 = .ok (.putfield 21, 3) := by decide +kernel
theorem dX1_init_36 : decode prog_3_method_1_code 36 = .ok (.aload_n 0, 1) := by decide +kernel
theorem dX1_init_37 : decode prog_3_method_1_code 37 = .ok (.bipush 12, 2) := by decide +kernel
theorem dX1_init_39 : decode prog_3_method_1_code 39 = .ok (.newarray .int, 2) := by decide +kernel
theorem dX1_init_41 : decode prog_3_method_1_code 41 = .ok (.putfield 24, 3) := by decide +kernel
theorem dX1_init_44 : decode prog_3_method_1_code 44 = .ok (.aload_n 0, 1) := by decide +kernel
theorem dX1_init_45 : decode prog_3_method_1_code 45 = .ok (.bipush 12, 2) := by decide +kernel
theorem dX1_init_47 : decode prog_3_method_1_code 47 = .ok (.newarray .int, 2) := by decide +kernel
theorem dX1_init_49 : decode prog_3_method_1_code 49 = .ok (.putfield 27, 3) := by decide +kernel
theorem dX1_init_52 : decode prog_3_method_1_code 52 = .ok (.aload_n 0, 1) := by decide +kernel
theorem dX1_init_53 : decode prog_3_method_1_code 53 = .ok (.bipush 12, 2) := by decide +kernel
theorem dX1_init_55 : decode prog_3_method_1_code 55 = .ok (.newarray .int, 2) := by decide +kernel
theorem dX1_init_57 : decode prog_3_method_1_code 57 = .ok (.putfield 30, 3) := by decide +kernel
theorem dX1_init_60 : decode prog_3_method_1_code 60 = .ok (.aload_n 0, 1) := by decide +kernel
theorem dX1_init_61 : decode prog_3_method_1_code 61 = .ok (.bipush 6, 2) := by decide +kernel
theorem dX1_init_63 : decode prog_3_method_1_code 63 = .ok (.newarray .int, 2) := by decide +kernel
theorem dX1_init_65 : decode prog_3_method_1_code 65 = .ok (.putfield 33, 3) := by decide +kernel
theorem dX1_init_68 : decode prog_3_method_1_code 68 = .ok (.aload_n 0, 1) := by decide +kernel
theorem dX1_init_69 : decode prog_3_method_1_code 69 = .ok (.bipush 6, 2) := by decide +kernel
theorem dX1_init_71 : decode prog_3_method_1_code 71 = .ok (.newarray .int, 2) := by decide +kernel
theorem dX1_init_73 : decode prog_3_method_1_code 73 = .ok (.dup, 1) := by decide +kernel
theorem dX1_init_74 : decode prog_3_method_1_code 74 = .ok (.iconst 0, 1) := by decide +kernel
theorem dX1_init_75 : decode prog_3_method_1_code 75 = .ok (.bipush 12, 2) := by decide +kernel
theorem dX1_init_77 : decode prog_3_method_1_code 77 = .ok (.iastore, 1) := by decide +kernel
theorem dX1_init_78 : decode prog_3_method_1_code 78 = .ok (.dup, 1) := by decide +kernel
theorem dX1_init_79 : decode prog_3_method_1_code 79 = .ok (.iconst 1, 1) := by decide +kernel
theorem dX1_init_80 : decode prog_3_method_1_code 80 = .ok (.bipush 12, 2) := by decide +kernel
theorem dX1_init_82 : decode prog_3_method_1_code 82 = .ok (.iastore, 1) := by decide +kernel
theorem dX1_init_83 : decode prog_3_method_1_code 83 = .ok (.dup, 1) := by decide +kernel
theorem dX1_init_84 : decode prog_3_method_1_code 84 = .ok (.iconst 2, 1) := by decide +kernel
theorem dX1_init_85 : decode prog_3_method_1_code 85 = .ok (.bipush 12, 2) := by decide +kernel
theorem dX1_init_87 : decode prog_3_method_1_code 87 = .ok (.iastore, 1) := by decide +kernel
theorem dX1_init_88 : decode prog_3_method_1_code 88 = .ok (.dup, 1) := by decide +kernel
theorem dX1_init_89 : decode prog_3_method_1_code 89 = .ok (.iconst 3, 1) := by decide +kernel
theorem dX1_init_90 : decode prog_3_method_1_code 90 = .ok (.bipush 12, 2) := by decide +kernel
theorem dX1_init_92 : decode prog_3_method_1_code 92 = .ok (.iastore, 1) := by decide +kernel
theorem dX1_init_93 : decode prog_3_method_1_code 93 = .ok (.dup, 1) := by decide +kernel
theorem dX1_init_94 : decode prog_3_method_1_code 94 = .ok (.iconst 4, 1) := by decide +kernel
theorem dX1_init_95 : decode prog_3_method_1_code 95 = .ok (.bipush 12, 2) := by decide +kernel
theorem dX1_init_97 : decode prog_3_method_1_code 97 = .ok (.iastore, 1) := by decide +kernel
theorem dX1_init_98 : decode prog_3_method_1_code 98 = .ok (.dup, 1) := by decide +kernel
theorem dX1_init_99 : decode prog_3_method_1_code 99 = .ok (.iconst 5, 1) := by decide +kernel
theorem dX1_init_100 : decode prog_3_method_1_code 100 = .ok (.bipush 12, 2) := by decide +kernel
theorem dX1_init_102 : decode prog_3_method_1_code 102 = .ok (.iastore, 1) := by decide +kernel
theorem dX1_init_103 : decode prog_3_method_1_code 103 = .ok (.putfield 36, 3) := by decide +kernel
theorem dX1_init_106 : decode prog_3_method_1_code 106 = .ok (.aload_n 0, 1) := by decide +kernel
theorem dX1_init_107 : decode prog_3_method_1_code 107 = .ok (.iconst 2, 1) := by decide +kernel
theorem dX1_init_108 : decode prog_3_method_1_code 108 = .ok (.newarray .int, 2) := by decide +kernel
theorem dX1_init_110 : decode prog_3_method_1_code 110 = .ok (.dup, 1) := by decide +kernel
theorem dX1_init_111 : decode prog_3_method_1_code 111 = .ok (.iconst 0, 1) := by decide +kernel
theorem dX1_init_112 : decode prog_3_method_1_code 112 = .ok (.iconst 1, 1) := by decide +kernel
theorem dX1_init_113 : decode prog_3_method_1_code 113 = .ok (.iastore, 1) := by decide +kernel
theorem dX1_init_114 : decode prog_3_method_1_code 114 = .ok (.dup, 1) := by decide +kernel
theorem dX1_init_115 : decode prog_3_method_1_code 115 = .ok (.iconst 1, 1) := by decide +kernel
theorem dX1_init_116 : decode prog_3_method_1_code 116 = .ok (.iconst 1, 1) := by decide +kernel
theorem dX1_init_117 : decode prog_3_method_1_code 117 = .ok (.iastore, 1) := by decide +kernel
theorem dX1_init_118 : decode prog_3_method_1_code 118 = .ok (.putfield 39, 3) := by decide +kernel
theorem dX1_init_121 : decode prog_3_method_1_code 121 = .ok (.aload_n 0, 1) := by decide +kernel
theorem dX1_init_122 : decode prog_3_method_1_code 122 = .ok (.iconst 2, 1) := by decide +kernel
theorem dX1_init_123 : decode prog_3_method_1_code 123 = .ok (.newarray .int, 2) := by decide +kernel
theorem dX1_init_125 : decode prog_3_method_1_code 125 = .ok (.putfield 42, 3) := by decide +kernel
theorem dX1_init_128 : decode prog_3_method_1_code 128 = .ok (.aload_n 0, 1) := by decide +kernel
theorem dX1_init_129 : decode prog_3_method_1_code 129 = .ok (.new 45, 3) := by decide +kernel
theorem dX1_init_132 : decode prog_3_method_1_code 132 = .ok (.dup, 1) := by decide +kernel
theorem dX1_init_133 : decode prog_3_method_1_code 133 = .ok (.invokespecial 47, 3) := by decide +kernel
theorem dX1_init_136 : decode prog_3_method_1_code 136 = .ok (.putfield 48, 3) := by decide +kernel
theorem dX1_init_139 : decode prog_3_method_1_code 139 = .ok (.aload_n 0, 1) := by decide +kernel
theorem dX1_init_140 : decode prog_3_method_1_code 140 = .ok (.iconst 0, 1) := by decide +kernel
theorem dX1_init_141 : decode prog_3_method_1_code 141 = .ok (.putfield 52, 3) := by decide +kernel
theorem dX1_init_144 : decode prog_3_method_1_code 144 = .ok (.aload_n 0, 1) := by decide +kernel
theorem dX1_init_145 : decode prog_3_method_1_code 145 = .ok (.iconst 0, 1) := by decide +kernel
theorem dX1_init_146 : decode prog_3_method_1_code 146 = .ok (.putfield 56, 3) := by decide +kernel
theorem dX1_init_149 : decode prog_3_method_1_code 149 = .ok (.aload_n 0, 1) := by decide +kernel
theorem dX1_init_150 : decode prog_3_method_1_code 150 = .ok (.iconst 0, 1) := by decide +kernel
theorem dX1_init_151 : decode prog_3_method_1_code 151 = .ok (.putfield 59, 3) := by decide +kernel
theorem dX1_init_154 : decode prog_3_method_1_code 154 = .ok (.aload_n 0, 1) := by decide +kernel
theorem dX1_init_155 : decode prog_3_method_1_code 155 = .ok (.iconst 0, 1) := by decide +kernel
theorem dX1_init_156 : decode prog_3_method_1_code 156 = .ok (.putfield 62, 3) := by decide +kernel
theorem dX1_init_159 : decode prog_3_method_1_code 159 = .ok (.aload_n 0, 1) := by decide +kernel
theorem dX1_init_160 : decode prog_3_method_1_code 160 = .ok (.iconst 0, 1) := by decide +kernel
theorem dX1_init_161 : decode prog_3_method_1_code 161 = .ok (.putfield 65, 3) := by decide +kernel
theorem dX1_init_164 : decode prog_3_method_1_code 164 = .ok (.aload_n 0, 1) := by decide +kernel
theorem dX1_init_165 : decode prog_3_method_1_code 165 = .ok (.iconst 1, 1) := by decide +kernel
theorem dX1_init_166 : decode prog_3_method_1_code 166 = .ok (.putfield 68, 3) := by decide +kernel
theorem dX1_init_169 : decode prog_3_method_1_code 169 = .ok (.return_, 1) := by decide +kernel
theorem dX4_init_0 : decode prog_6_method_1_code 0 = .ok (.aload_n 0, 1) := by decide +kernel
theorem dX4_init_1 : decode prog_6_method_1_code 1 = .ok (.invokespecial 3, 3) := by decide +kernel
theorem dX4_init_4 : decode prog_6_method_1_code 4 = .ok (.aload_n 0, 1) := by decide +kernel
theorem dX4_init_5 : decode prog_6_method_1_code 5 = .ok (.sipush 240, 3) := by decide +kernel
theorem dX4_init_8 : decode prog_6_method_1_code 8 = .ok (.newarray .int, 2) := by decide +kernel
theorem dX4_init_10 : decode prog_6_method_1_code 10 = .ok (.putfield 9, 3) := by decide +kernel
theorem dX4_init_13 : decode prog_6_method_1_code 13 = .ok (.aload_n 0, 1) := by decide +kernel
theorem dX4_init_14 : decode prog_6_method_1_code 14 = .ok (.iconst 0, 1) := by decide +kernel
theorem dX4_init_15 : decode prog_6_method_1_code 15 = .ok (.putfield 15, 3) := by decide +kernel
theorem dX4_init_18 : decode prog_6_method_1_code 18 = .ok (.aload_n 0, 1) := by decide +kernel
theorem dX4_init_19 : decode prog_6_method_1_code 19 = .ok (.iconst 0, 1) := by decide +kernel
theorem dX4_init_20 : decode prog_6_method_1_code 20 = .ok (.putfield 19, 3) := by decide +kernel
theorem dX4_init_23 : decode prog_6_method_1_code 23 = .ok (.return_, 1) := by decide +kernel
theorem dX6_init_0 : decode prog_8_method_1_code 0 = .ok (.aload_n 0, 1) := by decide +kernel
theorem dX6_init_1 : decode prog_8_method_1_code 1 = .ok (.invokespecial 1, 3) := by decide +kernel
theorem dX6_init_4 : decode prog_8_method_1_code 4 = .ok (.aload_n 0, 1) := by decide +kernel
theorem dX6_init_5 : decode prog_8_method_1_code 5 = .ok (.bipush 64, 2) := by decide +kernel
theorem dX6_init_7 : decode prog_8_method_1_code 7 = .ok (.newarray .int, 2) := by decide +kernel
theorem dX6_init_9 : decode prog_8_method_1_code 9 = .ok (.putfield 9, 3) := by decide +kernel
theorem dX6_init_12 : decode prog_8_method_1_code 12 = .ok (.aload_n 0, 1) := by decide +kernel
theorem dX6_init_13 : decode prog_8_method_1_code 13 = .ok (.bipush 64, 2) := by decide +kernel
theorem dX6_init_15 : decode prog_8_method_1_code 15 = .ok (.newarray .int, 2) := by decide +kernel
theorem dX6_init_17 : decode prog_8_method_1_code 17 = .ok (.putfield 13, 3) := by decide +kernel
theorem dX6_init_20 : decode prog_8_method_1_code 20 = .ok (.return_, 1) := by decide +kernel
theorem dX1_copyFrom_0 : decode prog_3_method_2_code 0 = .ok (.aload_n 1, 1) := by decide +kernel
theorem dX1_copyFrom_1 : decode prog_3_method_2_code 1 = .ok (.ifnonnull 4, 3) := by decide +kernel
theorem dX1_copyFrom_4 : decode prog_3_method_2_code 4 = .ok (.return_, 1) := by decide +kernel
theorem dX1_copyFrom_5 : decode prog_3_method_2_code 5 = .ok (.aload_n 1, 1) := by decide +kernel
theorem dX1_copyFrom_6 : decode prog_3_method_2_code 6 = .ok (.getfield 9, 3) := by decide +kernel
theorem dX1_copyFrom_9 : decode prog_3_method_2_code 9 = .ok (.aload_n 0, 1) := by decide +kernel
theorem dX1_copyFrom_10 : decode prog_3_method_2_code 10 = .ok (.getfield 9, 3) := by decide +kernel
theorem dX1_copyFrom_13 : decode prog_3_method_2_code 13 = .ok (.invokestatic 71, 3) := by decide +kernel
theorem dX1_copyFrom_16 : decode prog_3_method_2_code 16 = .ok (.aload_n 1, 1) := by decide +kernel
theorem dX1_copyFrom_17 : decode prog_3_method_2_code 17 = .ok (.getfield 15, 3) := by decide +kernel
theorem dX1_copyFrom_20 : decode prog_3_method_2_code 20 = .ok (.aload_n 0, 1) := by decide +kernel
theorem dX1_copyFrom_21 : decode prog_3_method_2_code 21 = .ok (.getfield 15, 3) := by decide +kernel
theorem dX1_copyFrom_24 : decode prog_3_method_2_code 24 = .ok (.invokestatic 71, 3) := by decide +kernel
theorem dX1_copyFrom_27 : decode prog_3_method_2_code 27 = .ok (.aload_n 1, 1) := by decide +kernel
theorem dX1_copyFrom_28 : decode prog_3_method_2_code 28 = .ok (.getfield 18, 3) := by decide +kernel
theorem dX1_copyFrom_31 : decode prog_3_method_2_code 31 = .ok (.aload_n 0, 1) := by decide +kernel
theorem dX1_copyFrom_32 : decode prog_3_method_2_code 32 = .ok (.getfield 18, 3) := by decide +kernel
theorem dX1_copyFrom_35 : decode prog_3_method_2_code 35 = .ok (.invokestatic 71, 3) := by decide +kernel
theorem dX1_copyFrom_38 : decode prog_3_method_2_code 38 = .ok (.aload_n 1, 1) := by decide +kernel
theorem dX1_copyFrom_39 : decode prog_3_method_2_code 39 = .ok (.getfield 21, 3) := by decide +kernel
theorem dX1_copyFrom_42 : decode prog_3_method_2_code 42 = .ok (.aload_n 0, 1) := by decide +kernel
theorem dX1_copyFrom_43 : decode prog_3_method_2_code 43 = .ok (.getfield 21, 3) := by decide +kernel
theorem dX1_copyFrom_46 : decode prog_3_method_2_code 46 = .ok (.invokestatic 71, 3) := by decide +kernel
theorem dX1_copyFrom_49 : decode prog_3_method_2_code 49 = .ok (.aload_n 1, 1) := by decide +kernel
theorem dX1_copyFrom_50 : decode prog_3_method_2_code 50 = .ok (.getfield 24, 3) := by decide +kernel
theorem dX1_copyFrom_53 : decode prog_3_method_2_code 53 = .ok (.aload_n 0, 1) := by decide +kernel
theorem dX1_copyFrom_54 : decode prog_3_method_2_code 54 = .ok (.getfield 24, 3) := by decide +kernel
theorem dX1_copyFrom_57 : decode prog_3_method_2_code 57 = .ok (.invokestatic 71, 3) := by decide +kernel
theorem dX1_copyFrom_60 : decode prog_3_method_2_code 60 = .ok (.aload_n 1, 1) := by decide +kernel
theorem dX1_copyFrom_61 : decode prog_3_method_2_code 61 = .ok (.getfield 27, 3) := by decide +kernel
theorem dX1_copyFrom_64 : decode prog_3_method_2_code 64 = .ok (.aload_n 0, 1) := by decide +kernel
theorem dX1_copyFrom_65 : decode prog_3_method_2_code 65 = .ok (.getfield 27, 3) := by decide +kernel
theorem dX1_copyFrom_68 : decode prog_3_method_2_code 68 = .ok (.invokestatic 71, 3) := by decide +kernel
theorem dX1_copyFrom_71 : decode prog_3_method_2_code 71 = .ok (.aload_n 1, 1) := by decide +kernel
theorem dX1_copyFrom_72 : decode prog_3_method_2_code 72 = .ok (.getfield 30, 3) := by decide +kernel
theorem dX1_copyFrom_75 : decode prog_3_method_2_code 75 = .ok (.aload_n 0, 1) := by decide +kernel
theorem dX1_copyFrom_76 : decode prog_3_method_2_code 76 = .ok (.getfield 30, 3) := by decide +kernel
theorem dX1_copyFrom_79 : decode prog_3_method_2_code 79 = .ok (.invokestatic 71, 3) := by decide +kernel
theorem dX1_copyFrom_82 : decode prog_3_method_2_code 82 = .ok (.aload_n 1, 1) := by decide +kernel
theorem dX1_copyFrom_83 : decode prog_3_method_2_code 83 = .ok (.getfield 33, 3) := by decide +kernel
theorem dX1_copyFrom_86 : decode prog_3_method_2_code 86 = .ok (.aload_n 0, 1) := by decide +kernel
theorem dX1_copyFrom_87 : decode prog_3_method_2_code 87 = .ok (.getfield 33, 3) := by decide +kernel
theorem dX1_copyFrom_90 : decode prog_3_method_2_code 90 = .ok (.invokestatic 71, 3) := by decide +kernel
theorem dX1_copyFrom_93 : decode prog_3_method_2_code 93 = .ok (.aload_n 1, 1) := by decide +kernel
theorem dX1_copyFrom_94 : decode prog_3_method_2_code 94 = .ok (.getfield 36, 3) := by decide +kernel
theorem dX1_copyFrom_97 : decode prog_3_method_2_code 97 = .ok (.aload_n 0, 1) := by decide +kernel
theorem dX1_copyFrom_98 : decode prog_3_method_2_code 98 = .ok (.getfield 36, 3) := by decide +kernel
theorem dX1_copyFrom_101 : decode prog_3_method_2_code 101 = .ok (.invokestatic 71, 3) := by decide +kernel
theorem dX1_copyFrom_104 : decode prog_3_method_2_code 104 = .ok (.aload_n 1, 1) := by decide +kernel
theorem dX1_copyFrom_105 : decode prog_3_method_2_code 105 = .ok (.getfield 39, 3) := by decide +kernel
theorem dX1_copyFrom_108 : decode prog_3_method_2_code 108 = .ok (.aload_n 0, 1) := by decide +kernel
theorem dX1_copyFrom_109 : decode prog_3_method_2_code 109 = .ok (.getfield 39, 3) := by decide +kernel
theorem dX1_copyFrom_112 : decode prog_3_method_2_code 112 = .ok (.invokestatic 71, 3) := by decide +kernel
theorem dX1_copyFrom_115 : decode prog_3_method_2_code 115 = .ok (.aload_n 1, 1) := by decide +kernel
theorem dX1_copyFrom_116 : decode prog_3_method_2_code 116 = .ok (.getfield 42, 3) := by decide +kernel
theorem dX1_copyFrom_119 : decode prog_3_method_2_code 119 = .ok (.aload_n 0, 1) := by decide +kernel
theorem dX1_copyFrom_120 : decode prog_3_method_2_code 120 = .ok (.getfield 42, 3) := by decide +kernel
theorem dX1_copyFrom_123 : decode prog_3_method_2_code 123 = .ok (.invokestatic 71, 3) := by decide +kernel
theorem dX1_copyFrom_126 : decode prog_3_method_2_code 126 = .ok (.aload_n 0, 1) := by decide +kernel
theorem dX1_copyFrom_127 : decode prog_3_method_2_code 127 = .ok (.getfield 48, 3) := by decide +kernel
theorem dX1_copyFrom_130 : decode prog_3_method_2_code 130 = .ok (.aload_n 1, 1) := by decide +kernel
theorem dX1_copyFrom_131 : decode prog_3_method_2_code 131 = .ok (.getfield 48, 3) := by decide +kernel
theorem dX1_copyFrom_134 : decode prog_3_method_2_code 134 = .ok (.invokevirtual 75, 3) := by decide +kernel
theorem dX1_copyFrom_137 : decode prog_3_method_2_code 137 = .ok (.aload_n 0, 1) := by decide +kernel
theorem dX1_copyFrom_138 : decode prog_3_method_2_code 138 = .ok (.aload_n 1, 1) := by decide +kernel
theorem dX1_copyFrom_139 : decode prog_3_method_2_code 139 = .ok (.getfield 52, 3) := by decide +kernel
theorem dX1_copyFrom_142 : decode prog_3_method_2_code 142 = .ok (.putfield 52, 3) := by decide +kernel
theorem dX1_copyFrom_145 : decode prog_3_method_2_code 145 = .ok (.aload_n 0, 1) := by decide +kernel
theorem dX1_copyFrom_146 : decode prog_3_method_2_code 146 = .ok (.aload_n 1, 1) := by decide +kernel
theorem dX1_copyFrom_147 : decode prog_3_method_2_code 147 = .ok (.getfield 56, 3) := by decide +kernel
theorem dX1_copyFrom_150 : decode prog_3_method_2_code 150 = .ok (.putfield 56, 3) := by decide +kernel
theorem dX1_copyFrom_153 : decode prog_3_method_2_code 153 = .ok (.aload_n 0, 1) := by decide +kernel
theorem dX1_copyFrom_154 : decode prog_3_method_2_code 154 = .ok (.aload_n 1, 1) := by decide +kernel
theorem dX1_copyFrom_155 : decode prog_3_method_2_code 155 = .ok (.getfield 59, 3) := by decide +kernel
theorem dX1_copyFrom_158 : decode prog_3_method_2_code 158 = .ok (.putfield 59, 3) := by decide +kernel
theorem dX1_copyFrom_161 : decode prog_3_method_2_code 161 = .ok (.aload_n 0, 1) := by decide +kernel
theorem dX1_copyFrom_162 : decode prog_3_method_2_code 162 = .ok (.aload_n 1, 1) := by decide +kernel
theorem dX1_copyFrom_163 : decode prog_3_method_2_code 163 = .ok (.getfield 62, 3) := by decide +kernel
theorem dX1_copyFrom_166 : decode prog_3_method_2_code 166 = .ok (.putfield 62, 3) := by decide +kernel
theorem dX1_copyFrom_169 : decode prog_3_method_2_code 169 = .ok (.aload_n 0, 1) := by decide +kernel
theorem dX1_copyFrom_170 : decode prog_3_method_2_code 170 = .ok (.aload_n 1, 1) := by decide +kernel
theorem dX1_copyFrom_171 : decode prog_3_method_2_code 171 = .ok (.getfield 65, 3) := by decide +kernel
theorem dX1_copyFrom_174 : decode prog_3_method_2_code 174 = .ok (.putfield 65, 3) := by decide +kernel
theorem dX1_copyFrom_177 : decode prog_3_method_2_code 177 = .ok (.aload_n 0, 1) := by decide +kernel
theorem dX1_copyFrom_178 : decode prog_3_method_2_code 178 = .ok (.aload_n 1, 1) := by decide +kernel
theorem dX1_copyFrom_179 : decode prog_3_method_2_code 179 = .ok (.getfield 68, 3) := by decide +kernel
theorem dX1_copyFrom_182 : decode prog_3_method_2_code 182 = .ok (.putfield 68, 3) := by decide +kernel
theorem dX1_copyFrom_185 : decode prog_3_method_2_code 185 = .ok (.return_, 1) := by decide +kernel
theorem dX4_copyFrom_0 : decode prog_6_method_2_code 0 = .ok (.aload_n 1, 1) := by decide +kernel
theorem dX4_copyFrom_1 : decode prog_6_method_2_code 1 = .ok (.getfield 9, 3) := by decide +kernel
theorem dX4_copyFrom_4 : decode prog_6_method_2_code 4 = .ok (.aload_n 0, 1) := by decide +kernel
theorem dX4_copyFrom_5 : decode prog_6_method_2_code 5 = .ok (.getfield 9, 3) := by decide +kernel
theorem dX4_copyFrom_8 : decode prog_6_method_2_code 8 = .ok (.invokestatic 22, 3) := by decide +kernel
theorem dX4_copyFrom_11 : decode prog_6_method_2_code 11 = .ok (.aload_n 0, 1) := by decide +kernel
theorem dX4_copyFrom_12 : decode prog_6_method_2_code 12 = .ok (.aload_n 1, 1) := by decide +kernel
theorem dX4_copyFrom_13 : decode prog_6_method_2_code 13 = .ok (.getfield 15, 3) := by decide +kernel
theorem dX4_copyFrom_16 : decode prog_6_method_2_code 16 = .ok (.putfield 15, 3) := by decide +kernel
theorem dX4_copyFrom_19 : decode prog_6_method_2_code 19 = .ok (.aload_n 0, 1) := by decide +kernel
theorem dX4_copyFrom_20 : decode prog_6_method_2_code 20 = .ok (.aload_n 1, 1) := by decide +kernel
theorem dX4_copyFrom_21 : decode prog_6_method_2_code 21 = .ok (.getfield 19, 3) := by decide +kernel
theorem dX4_copyFrom_24 : decode prog_6_method_2_code 24 = .ok (.putfield 19, 3) := by decide +kernel
theorem dX4_copyFrom_27 : decode prog_6_method_2_code 27 = .ok (.return_, 1) := by decide +kernel
theorem dX1_missingOnes_0 : decode prog_3_method_13_code 0 = .ok (.iconst 0, 1) := by decide +kernel
theorem dX1_missingOnes_1 : decode prog_3_method_13_code 1 = .ok (.istore_n 1, 1) := by decide +kernel
theorem dX1_missingOnes_2 : decode prog_3_method_13_code 2 = .ok (.iconst 0, 1) := by decide +kernel
theorem dX1_missingOnes_3 : decode prog_3_method_13_code 3 = .ok (.istore_n 2, 1) := by decide +kernel
theorem dX1_missingOnes_4 : decode prog_3_method_13_code 4 = .ok (.iload_n 2, 1) := by decide +kernel
theorem dX1_missingOnes_5 : decode prog_3_method_13_code 5 = .ok (.aload_n 0, 1) := by decide +kernel
theorem dX1_missingOnes_6 : decode prog_3_method_13_code 6 = .ok (.getfield 52, 3) := by decide +kernel
theorem dX1_missingOnes_9 : decode prog_3_method_13_code 9 = .ok (.if_icmp .ge 23, 3) := by decide +kernel
theorem dX1_missingOnes_12 : decode prog_3_method_13_code 12 = .ok (.aload_n 0, 1) := by decide +kernel
theorem dX1_missingOnes_13 : decode prog_3_method_13_code 13 = .ok (.iload_n 2, 1) := by decide +kernel
theorem dX1_missingOnes_14 : decode prog_3_method_13_code 14 = .ok (.invokevirtual 116, 3) := by decide +kernel
theorem dX1_missingOnes_17 : decode prog_3_method_13_code 17 = .ok (.ifCond .eq 9, 3) := by decide +kernel
theorem dX1_missingOnes_20 : decode prog_3_method_13_code 20 = .ok (.iload_n 1, 1) := by decide +kernel
theorem dX1_missingOnes_21 : decode prog_3_method_13_code 21 = .ok (.iconst 1, 1) := by decide +kernel
theorem dX1_missingOnes_22 : decode prog_3_method_13_code 22 = .ok (.iload_n 2, 1) := by decide +kernel
theorem dX1_missingOnes_23 : decode prog_3_method_13_code 23 = .ok (.ishl, 1) := by decide +kernel
theorem dX1_missingOnes_24 : decode prog_3_method_13_code 24 = .ok (.ior, 1) := by decide +kernel
theorem dX1_missingOnes_25 : decode prog_3_method_13_code 25 = .ok (.istore_n 1, 1) := by decide +kernel
theorem dX1_missingOnes_26 : decode prog_3_method_13_code 26 = .ok (.iinc 2 1, 3) := by decide +kernel
theorem dX1_missingOnes_29 : decode prog_3_method_13_code 29 = .ok (.goto (-25), 3) := by decide +kernel
theorem dX1_missingOnes_32 : decode prog_3_method_13_code 32 = .ok (.iload_n 1, 1) := by decide +kernel
theorem dX1_missingOnes_33 : decode prog_3_method_13_code 33 = .ok (.ireturn, 1) := by decide +kernel
theorem dX1_isMissing_0 : decode prog_3_method_6_code 0 = .ok (.aload_n 0, 1) := by decide +kernel
theorem dX1_isMissing_1 : decode prog_3_method_6_code 1 = .ok (.getfield 15, 3) := by decide +kernel
theorem dX1_isMissing_4 : decode prog_3_method_6_code 4 = .ok (.iload_n 1, 1) := by decide +kernel
theorem dX1_isMissing_5 : decode prog_3_method_6_code 5 = .ok (.invokestatic 83, 3) := by decide +kernel
theorem dX1_isMissing_8 : decode prog_3_method_6_code 8 = .ok (.aload_n 0, 1) := by decide +kernel
theorem dX1_isMissing_9 : decode prog_3_method_6_code 9 = .ok (.getfield 27, 3) := by decide +kernel
theorem dX1_isMissing_12 : decode prog_3_method_6_code 12 = .ok (.iload_n 1, 1) := by decide +kernel
theorem dX1_isMissing_13 : decode prog_3_method_6_code 13 = .ok (.invokestatic 83, 3) := by decide +kernel
theorem dX1_isMissing_16 : decode prog_3_method_6_code 16 = .ok (.if_icmp .eq 7, 3) := by decide +kernel
theorem dX1_isMissing_19 : decode prog_3_method_6_code 19 = .ok (.iconst 1, 1) := by decide +kernel
theorem dX1_isMissing_20 : decode prog_3_method_6_code 20 = .ok (.goto 4, 3) := by decide +kernel
theorem dX1_isMissing_23 : decode prog_3_method_6_code 23 = .ok (.iconst 0, 1) := by decide +kernel
theorem dX1_isMissing_24 : decode prog_3_method_6_code 24 = .ok (.ireturn, 1) := by decide +kernel
theorem dX1_takeInventory_0 : decode prog_3_method_18_code 0 = .ok (.aload_n 0, 1) := by decide +kernel
theorem dX1_takeInventory_1 : decode prog_3_method_18_code 1 = .ok (.getfield 15, 3) := by decide +kernel
theorem dX1_takeInventory_4 : decode prog_3_method_18_code 4 = .ok (.aload_n 0, 1) := by decide +kernel
theorem dX1_takeInventory_5 : decode prog_3_method_18_code 5 = .ok (.getfield 27, 3) := by decide +kernel
theorem dX1_takeInventory_8 : decode prog_3_method_18_code 8 = .ok (.invokestatic 71, 3) := by decide +kernel
theorem dX1_takeInventory_11 : decode prog_3_method_18_code 11 = .ok (.aload_n 0, 1) := by decide +kernel
theorem dX1_takeInventory_12 : decode prog_3_method_18_code 12 = .ok (.getfield 18, 3) := by decide +kernel
theorem dX1_takeInventory_15 : decode prog_3_method_18_code 15 = .ok (.aload_n 0, 1) := by decide +kernel
theorem dX1_takeInventory_16 : decode prog_3_method_18_code 16 = .ok (.getfield 30, 3) := by decide +kernel
theorem dX1_takeInventory_19 : decode prog_3_method_18_code 19 = .ok (.invokestatic 71, 3) := by decide +kernel
theorem dX1_takeInventory_22 : decode prog_3_method_18_code 22 = .ok (.aload_n 0, 1) := by decide +kernel
theorem dX1_takeInventory_23 : decode prog_3_method_18_code 23 = .ok (.aload_n 0, 1) := by decide +kernel
theorem dX1_takeInventory_24 : decode prog_3_method_18_code 24 = .ok (.getfield 33, 3) := by decide +kernel
theorem dX1_takeInventory_27 : decode prog_3_method_18_code 27 = .ok (.bipush 6, 2) := by decide +kernel
theorem dX1_takeInventory_29 : decode prog_3_method_18_code 29 = .ok (.invokestatic 120, 3) := by decide +kernel
theorem dX1_takeInventory_32 : decode prog_3_method_18_code 32 = .ok (.putfield 65, 3) := by decide +kernel
theorem dX1_takeInventory_35 : decode prog_3_method_18_code 35 = .ok (.return_, 1) := by decide +kernel
theorem dX1_worseBy_0 : decode prog_3_method_7_code 0 = .ok (.iconst 0, 1) := by decide +kernel
theorem dX1_worseBy_1 : decode prog_3_method_7_code 1 = .ok (.aload_n 0, 1) := by decide +kernel
theorem dX1_worseBy_2 : decode prog_3_method_7_code 2 = .ok (.getfield 18, 3) := by decide +kernel
theorem dX1_worseBy_5 : decode prog_3_method_7_code 5 = .ok (.iload_n 1, 1) := by decide +kernel
theorem dX1_worseBy_6 : decode prog_3_method_7_code 6 = .ok (.invokestatic 83, 3) := by decide +kernel
theorem dX1_worseBy_9 : decode prog_3_method_7_code 9 = .ok (.aload_n 0, 1) := by decide +kernel
theorem dX1_worseBy_10 : decode prog_3_method_7_code 10 = .ok (.getfield 30, 3) := by decide +kernel
theorem dX1_worseBy_13 : decode prog_3_method_7_code 13 = .ok (.iload_n 1, 1) := by decide +kernel
theorem dX1_worseBy_14 : decode prog_3_method_7_code 14 = .ok (.invokestatic 83, 3) := by decide +kernel
theorem dX1_worseBy_17 : decode prog_3_method_7_code 17 = .ok (.isub, 1) := by decide +kernel
theorem dX1_worseBy_18 : decode prog_3_method_7_code 18 = .ok (.invokestatic 87, 3) := by decide +kernel
theorem dX1_worseBy_21 : decode prog_3_method_7_code 21 = .ok (.ireturn, 1) := by decide +kernel
theorem dX1_workOfAll_0 : decode prog_3_method_9_code 0 = .ok (.iconst 0, 1) := by decide +kernel
theorem dX1_workOfAll_1 : decode prog_3_method_9_code 1 = .ok (.istore_n 1, 1) := by decide +kernel
theorem dX1_workOfAll_2 : decode prog_3_method_9_code 2 = .ok (.iconst 0, 1) := by decide +kernel
theorem dX1_workOfAll_3 : decode prog_3_method_9_code 3 = .ok (.istore_n 2, 1) := by decide +kernel
theorem dX1_workOfAll_4 : decode prog_3_method_9_code 4 = .ok (.iload_n 2, 1) := by decide +kernel
theorem dX1_workOfAll_5 : decode prog_3_method_9_code 5 = .ok (.aload_n 0, 1) := by decide +kernel
theorem dX1_workOfAll_6 : decode prog_3_method_9_code 6 = .ok (.getfield 52, 3) := by decide +kernel
theorem dX1_workOfAll_9 : decode prog_3_method_9_code 9 = .ok (.if_icmp .ge 17, 3) := by decide +kernel
theorem dX1_workOfAll_12 : decode prog_3_method_9_code 12 = .ok (.iload_n 1, 1) := by decide +kernel
theorem dX1_workOfAll_13 : decode prog_3_method_9_code 13 = .ok (.aload_n 0, 1) := by decide +kernel
theorem dX1_workOfAll_14 : decode prog_3_method_9_code 14 = .ok (.iload_n 2, 1) := by decide +kernel
theorem dX1_workOfAll_15 : decode prog_3_method_9_code 15 = .ok (.invokevirtual 103, 3) := by decide +kernel
theorem dX1_workOfAll_18 : decode prog_3_method_9_code 18 = .ok (.iadd, 1) := by decide +kernel
theorem dX1_workOfAll_19 : decode prog_3_method_9_code 19 = .ok (.istore_n 1, 1) := by decide +kernel
theorem dX1_workOfAll_20 : decode prog_3_method_9_code 20 = .ok (.iinc 2 1, 3) := by decide +kernel
theorem dX1_workOfAll_23 : decode prog_3_method_9_code 23 = .ok (.goto (-19), 3) := by decide +kernel
theorem dX1_workOfAll_26 : decode prog_3_method_9_code 26 = .ok (.iconst 0, 1) := by decide +kernel
theorem dX1_workOfAll_27 : decode prog_3_method_9_code 27 = .ok (.istore_n 2, 1) := by decide +kernel
theorem dX1_workOfAll_28 : decode prog_3_method_9_code 28 = .ok (.iload_n 2, 1) := by decide +kernel
theorem dX1_workOfAll_29 : decode prog_3_method_9_code 29 = .ok (.bipush 6, 2) := by decide +kernel
theorem dX1_workOfAll_31 : decode prog_3_method_9_code 31 = .ok (.if_icmp .ge 25, 3) := by decide +kernel
theorem dX1_workOfAll_34 : decode prog_3_method_9_code 34 = .ok (.iload_n 1, 1) := by decide +kernel
theorem dX1_workOfAll_35 : decode prog_3_method_9_code 35 = .ok (.aload_n 0, 1) := by decide +kernel
theorem dX1_workOfAll_36 : decode prog_3_method_9_code 36 = .ok (.getfield 33, 3) := by decide +kernel
theorem dX1_workOfAll_39 : decode prog_3_method_9_code 39 = .ok (.iload_n 2, 1) := by decide +kernel
theorem dX1_workOfAll_40 : decode prog_3_method_9_code 40 = .ok (.invokestatic 83, 3) := by decide +kernel
theorem dX1_workOfAll_43 : decode prog_3_method_9_code 43 = .ok (.bipush 10, 2) := by decide +kernel
theorem dX1_workOfAll_45 : decode prog_3_method_9_code 45 = .ok (.invokestatic 100, 3) := by decide +kernel
theorem dX1_workOfAll_48 : decode prog_3_method_9_code 48 = .ok (.iadd, 1) := by decide +kernel
theorem dX1_workOfAll_49 : decode prog_3_method_9_code 49 = .ok (.istore_n 1, 1) := by decide +kernel
theorem dX1_workOfAll_50 : decode prog_3_method_9_code 50 = .ok (.iinc 2 1, 3) := by decide +kernel
theorem dX1_workOfAll_53 : decode prog_3_method_9_code 53 = .ok (.goto (-25), 3) := by decide +kernel
theorem dX1_workOfAll_56 : decode prog_3_method_9_code 56 = .ok (.iload_n 1, 1) := by decide +kernel
theorem dX1_workOfAll_57 : decode prog_3_method_9_code 57 = .ok (.ireturn, 1) := by decide +kernel
theorem dX1_workOf_0 : decode prog_3_method_8_code 0 = .ok (.aload_n 0, 1) := by decide +kernel
theorem dX1_workOf_1 : decode prog_3_method_8_code 1 = .ok (.getfield 15, 3) := by decide +kernel
theorem dX1_workOf_4 : decode prog_3_method_8_code 4 = .ok (.iload_n 1, 1) := by decide +kernel
theorem dX1_workOf_5 : decode prog_3_method_8_code 5 = .ok (.invokestatic 83, 3) := by decide +kernel
theorem dX1_workOf_8 : decode prog_3_method_8_code 8 = .ok (.aload_n 0, 1) := by decide +kernel
theorem dX1_workOf_9 : decode prog_3_method_8_code 9 = .ok (.getfield 27, 3) := by decide +kernel
theorem dX1_workOf_12 : decode prog_3_method_8_code 12 = .ok (.iload_n 1, 1) := by decide +kernel
theorem dX1_workOf_13 : decode prog_3_method_8_code 13 = .ok (.invokestatic 83, 3) := by decide +kernel
theorem dX1_workOf_16 : decode prog_3_method_8_code 16 = .ok (.invokestatic 93, 3) := by decide +kernel
theorem dX1_workOf_19 : decode prog_3_method_8_code 19 = .ok (.aload_n 0, 1) := by decide +kernel
theorem dX1_workOf_20 : decode prog_3_method_8_code 20 = .ok (.iload_n 1, 1) := by decide +kernel
theorem dX1_workOf_21 : decode prog_3_method_8_code 21 = .ok (.invokevirtual 96, 3) := by decide +kernel
theorem dX1_workOf_24 : decode prog_3_method_8_code 24 = .ok (.iconst 5, 1) := by decide +kernel
theorem dX1_workOf_25 : decode prog_3_method_8_code 25 = .ok (.invokestatic 100, 3) := by decide +kernel
theorem dX1_workOf_28 : decode prog_3_method_8_code 28 = .ok (.iadd, 1) := by decide +kernel
theorem dX1_workOf_29 : decode prog_3_method_8_code 29 = .ok (.ireturn, 1) := by decide +kernel
theorem dX1_passDay_0 : decode prog_3_method_19_code 0 = .ok (.iconst 0, 1) := by decide +kernel
theorem dX1_passDay_1 : decode prog_3_method_19_code 1 = .ok (.istore_n 3, 1) := by decide +kernel
theorem dX1_passDay_2 : decode prog_3_method_19_code 2 = .ok (.iload_n 3, 1) := by decide +kernel
theorem dX1_passDay_3 : decode prog_3_method_19_code 3 = .ok (.aload_n 0, 1) := by decide +kernel
theorem dX1_passDay_4 : decode prog_3_method_19_code 4 = .ok (.getfield 52, 3) := by decide +kernel
theorem dX1_passDay_7 : decode prog_3_method_19_code 7 = .ok (.if_icmp .ge 15, 3) := by decide +kernel
theorem dX1_passDay_10 : decode prog_3_method_19_code 10 = .ok (.aload_n 0, 1) := by decide +kernel
theorem dX1_passDay_11 : decode prog_3_method_19_code 11 = .ok (.aload_n 1, 1) := by decide +kernel
theorem dX1_passDay_12 : decode prog_3_method_19_code 12 = .ok (.iload_n 3, 1) := by decide +kernel
theorem dX1_passDay_13 : decode prog_3_method_19_code 13 = .ok (.invokevirtual 126, 3) := by decide +kernel
theorem dX1_passDay_16 : decode prog_3_method_19_code 16 = .ok (.iinc 3 1, 3) := by decide +kernel
theorem dX1_passDay_19 : decode prog_3_method_19_code 19 = .ok (.goto (-17), 3) := by decide +kernel
theorem dX1_passDay_22 : decode prog_3_method_19_code 22 = .ok (.iload_n 2, 1) := by decide +kernel
theorem dX1_passDay_23 : decode prog_3_method_19_code 23 = .ok (.ifCond .eq 7, 3) := by decide +kernel
theorem dX1_passDay_26 : decode prog_3_method_19_code 26 = .ok (.aload_n 0, 1) := by decide +kernel
theorem dX1_passDay_27 : decode prog_3_method_19_code 27 = .ok (.invokevirtual 130, 3) := by decide +kernel
theorem dX1_passDay_30 : decode prog_3_method_19_code 30 = .ok (.aload_n 0, 1) := by decide +kernel
theorem dX1_passDay_31 : decode prog_3_method_19_code 31 = .ok (.invokevirtual 113, 3) := by decide +kernel
theorem dX1_passDay_34 : decode prog_3_method_19_code 34 = .ok (.iconst 1, 1) := by decide +kernel
theorem dX1_passDay_35 : decode prog_3_method_19_code 35 = .ok (.if_icmp .ne 7, 3) := by decide +kernel
theorem dX1_passDay_38 : decode prog_3_method_19_code 38 = .ok (.iconst 1, 1) := by decide +kernel
theorem dX1_passDay_39 : decode prog_3_method_19_code 39 = .ok (.goto 4, 3) := by decide +kernel
theorem dX1_passDay_42 : decode prog_3_method_19_code 42 = .ok (.iconst 0, 1) := by decide +kernel
theorem dX1_passDay_43 : decode prog_3_method_19_code 43 = .ok (.istore_n 3, 1) := by decide +kernel
theorem dX1_passDay_44 : decode prog_3_method_19_code 44 = .ok (.iload_n 3, 1) := by decide +kernel
theorem dX1_passDay_45 : decode prog_3_method_19_code 45 = .ok (.ifCond .eq 7, 3) := by decide +kernel
theorem dX1_passDay_48 : decode prog_3_method_19_code 48 = .ok (.aload_n 0, 1) := by decide +kernel
theorem dX1_passDay_49 : decode prog_3_method_19_code 49 = .ok (.invokevirtual 133, 3) := by decide +kernel
theorem dX1_passDay_52 : decode prog_3_method_19_code 52 = .ok (.aload_n 0, 1) := by decide +kernel
theorem dX1_passDay_53 : decode prog_3_method_19_code 53 = .ok (.sipush 9999, 3) := by decide +kernel
theorem dX1_passDay_56 : decode prog_3_method_19_code 56 = .ok (.aload_n 0, 1) := by decide +kernel
theorem dX1_passDay_57 : decode prog_3_method_19_code 57 = .ok (.getfield 62, 3) := by decide +kernel
theorem dX1_passDay_60 : decode prog_3_method_19_code 60 = .ok (.iconst 1, 1) := by decide +kernel
theorem dX1_passDay_61 : decode prog_3_method_19_code 61 = .ok (.iadd, 1) := by decide +kernel
theorem dX1_passDay_62 : decode prog_3_method_19_code 62 = .ok (.invokestatic 136, 3) := by decide +kernel
theorem dX1_passDay_65 : decode prog_3_method_19_code 65 = .ok (.putfield 62, 3) := by decide +kernel
theorem dX1_passDay_68 : decode prog_3_method_19_code 68 = .ok (.iload_n 3, 1) := by decide +kernel
theorem dX1_passDay_69 : decode prog_3_method_19_code 69 = .ok (.ireturn, 1) := by decide +kernel
theorem dX1_passItem_0 : decode prog_3_method_20_code 0 = .ok (.aload_n 1, 1) := by decide +kernel
theorem dX1_passItem_1 : decode prog_3_method_20_code 1 = .ok (.aload_n 0, 1) := by decide +kernel
theorem dX1_passItem_2 : decode prog_3_method_20_code 2 = .ok (.iload_n 2, 1) := by decide +kernel
theorem dX1_passItem_3 : decode prog_3_method_20_code 3 = .ok (.invokevirtual 139, 3) := by decide +kernel
theorem dX1_passItem_6 : decode prog_3_method_20_code 6 = .ok (.aload_n 0, 1) := by decide +kernel
theorem dX1_passItem_7 : decode prog_3_method_20_code 7 = .ok (.getfield 15, 3) := by decide +kernel
theorem dX1_passItem_10 : decode prog_3_method_20_code 10 = .ok (.iload_n 2, 1) := by decide +kernel
theorem dX1_passItem_11 : decode prog_3_method_20_code 11 = .ok (.invokestatic 83, 3) := by decide +kernel
theorem dX1_passItem_14 : decode prog_3_method_20_code 14 = .ok (.istore_n 3, 1) := by decide +kernel
theorem dX1_passItem_15 : decode prog_3_method_20_code 15 = .ok (.aload_n 0, 1) := by decide +kernel
theorem dX1_passItem_16 : decode prog_3_method_20_code 16 = .ok (.getfield 18, 3) := by decide +kernel
theorem dX1_passItem_19 : decode prog_3_method_20_code 19 = .ok (.iload_n 2, 1) := by decide +kernel
theorem dX1_passItem_20 : decode prog_3_method_20_code 20 = .ok (.bipush 99, 2) := by decide +kernel
theorem dX1_passItem_22 : decode prog_3_method_20_code 22 = .ok (.aload_n 0, 1) := by decide +kernel
theorem dX1_passItem_23 : decode prog_3_method_20_code 23 = .ok (.getfield 18, 3) := by decide +kernel
theorem dX1_passItem_26 : decode prog_3_method_20_code 26 = .ok (.iload_n 2, 1) := by decide +kernel
theorem dX1_passItem_27 : decode prog_3_method_20_code 27 = .ok (.invokestatic 83, 3) := by decide +kernel
theorem dX1_passItem_30 : decode prog_3_method_20_code 30 = .ok (.aload_n 1, 1) := by decide +kernel
theorem dX1_passItem_31 : decode prog_3_method_20_code 31 = .ok (.getfield 145, 3) := by decide +kernel
theorem dX1_passItem_34 : decode prog_3_method_20_code 34 = .ok (.iconst 0, 1) := by decide +kernel
theorem dX1_passItem_35 : decode prog_3_method_20_code 35 = .ok (.invokestatic 83, 3) := by decide +kernel
theorem dX1_passItem_38 : decode prog_3_method_20_code 38 = .ok (.iadd, 1) := by decide +kernel
theorem dX1_passItem_39 : decode prog_3_method_20_code 39 = .ok (.invokestatic 136, 3) := by decide +kernel
theorem dX1_passItem_42 : decode prog_3_method_20_code 42 = .ok (.invokestatic 79, 3) := by decide +kernel
theorem dX1_passItem_45 : decode prog_3_method_20_code 45 = .ok (.aload_n 0, 1) := by decide +kernel
theorem dX1_passItem_46 : decode prog_3_method_20_code 46 = .ok (.getfield 33, 3) := by decide +kernel
theorem dX1_passItem_49 : decode prog_3_method_20_code 49 = .ok (.iload_n 3, 1) := by decide +kernel
theorem dX1_passItem_50 : decode prog_3_method_20_code 50 = .ok (.bipush 99, 2) := by decide +kernel
theorem dX1_passItem_52 : decode prog_3_method_20_code 52 = .ok (.aload_n 0, 1) := by decide +kernel
theorem dX1_passItem_53 : decode prog_3_method_20_code 53 = .ok (.getfield 33, 3) := by decide +kernel
theorem dX1_passItem_56 : decode prog_3_method_20_code 56 = .ok (.iload_n 3, 1) := by decide +kernel
theorem dX1_passItem_57 : decode prog_3_method_20_code 57 = .ok (.invokestatic 83, 3) := by decide +kernel
theorem dX1_passItem_60 : decode prog_3_method_20_code 60 = .ok (.aload_n 1, 1) := by decide +kernel
theorem dX1_passItem_61 : decode prog_3_method_20_code 61 = .ok (.getfield 145, 3) := by decide +kernel
theorem dX1_passItem_64 : decode prog_3_method_20_code 64 = .ok (.iconst 2, 1) := by decide +kernel
theorem dX1_passItem_65 : decode prog_3_method_20_code 65 = .ok (.invokestatic 83, 3) := by decide +kernel
theorem dX1_passItem_68 : decode prog_3_method_20_code 68 = .ok (.iadd, 1) := by decide +kernel
theorem dX1_passItem_69 : decode prog_3_method_20_code 69 = .ok (.invokestatic 136, 3) := by decide +kernel
theorem dX1_passItem_72 : decode prog_3_method_20_code 72 = .ok (.invokestatic 79, 3) := by decide +kernel
theorem dX1_passItem_75 : decode prog_3_method_20_code 75 = .ok (.aload_n 0, 1) := by decide +kernel
theorem dX1_passItem_76 : decode prog_3_method_20_code 76 = .ok (.getfield 15, 3) := by decide +kernel
theorem dX1_passItem_79 : decode prog_3_method_20_code 79 = .ok (.iload_n 2, 1) := by decide +kernel
theorem dX1_passItem_80 : decode prog_3_method_20_code 80 = .ok (.iload_n 3, 1) := by decide +kernel
theorem dX1_passItem_81 : decode prog_3_method_20_code 81 = .ok (.aload_n 1, 1) := by decide +kernel
theorem dX1_passItem_82 : decode prog_3_method_20_code 82 = .ok (.getfield 145, 3) := by decide +kernel
theorem dX1_passItem_85 : decode prog_3_method_20_code 85 = .ok (.iconst 1, 1) := by decide +kernel
theorem dX1_passItem_86 : decode prog_3_method_20_code 86 = .ok (.invokestatic 83, 3) := by decide +kernel
theorem dX1_passItem_89 : decode prog_3_method_20_code 89 = .ok (.iadd, 1) := by decide +kernel
theorem dX1_passItem_90 : decode prog_3_method_20_code 90 = .ok (.bipush 6, 2) := by decide +kernel
theorem dX1_passItem_92 : decode prog_3_method_20_code 92 = .ok (.irem, 1) := by decide +kernel
theorem dX1_passItem_93 : decode prog_3_method_20_code 93 = .ok (.invokestatic 79, 3) := by decide +kernel
theorem dX1_passItem_96 : decode prog_3_method_20_code 96 = .ok (.return_, 1) := by decide +kernel
theorem dX1_there_0 : decode prog_3_method_4_code 0 = .ok (.aload_n 0, 1) := by decide +kernel
theorem dX1_there_1 : decode prog_3_method_4_code 1 = .ok (.getfield 62, 3) := by decide +kernel
theorem dX1_there_4 : decode prog_3_method_4_code 4 = .ok (.sipush 364, 3) := by decide +kernel
theorem dX1_there_7 : decode prog_3_method_4_code 7 = .ok (.irem, 1) := by decide +kernel
theorem dX1_there_8 : decode prog_3_method_4_code 8 = .ok (.sipush 182, 3) := by decide +kernel
theorem dX1_there_11 : decode prog_3_method_4_code 11 = .ok (.if_icmp .ge 7, 3) := by decide +kernel
theorem dX1_there_14 : decode prog_3_method_4_code 14 = .ok (.iconst 0, 1) := by decide +kernel
theorem dX1_there_15 : decode prog_3_method_4_code 15 = .ok (.goto 4, 3) := by decide +kernel
theorem dX1_there_18 : decode prog_3_method_4_code 18 = .ok (.iconst 1, 1) := by decide +kernel
theorem dX1_there_19 : decode prog_3_method_4_code 19 = .ok (.ireturn, 1) := by decide +kernel
theorem dX1_passWeather_0 : decode prog_3_method_21_code 0 = .ok (.aload_n 0, 1) := by decide +kernel
theorem dX1_passWeather_1 : decode prog_3_method_21_code 1 = .ok (.invokevirtual 148, 3) := by decide +kernel
theorem dX1_passWeather_4 : decode prog_3_method_21_code 4 = .ok (.bipush 100, 2) := by decide +kernel
theorem dX1_passWeather_6 : decode prog_3_method_21_code 6 = .ok (.irem, 1) := by decide +kernel
theorem dX1_passWeather_7 : decode prog_3_method_21_code 7 = .ok (.aload_n 0, 1) := by decide +kernel
theorem dX1_passWeather_8 : decode prog_3_method_21_code 8 = .ok (.getfield 59, 3) := by decide +kernel
theorem dX1_passWeather_11 : decode prog_3_method_21_code 11 = .ok (.if_icmp .lt 4, 3) := by decide +kernel
theorem dX1_passWeather_14 : decode prog_3_method_21_code 14 = .ok (.return_, 1) := by decide +kernel
theorem dX1_passWeather_15 : decode prog_3_method_21_code 15 = .ok (.aload_n 0, 1) := by decide +kernel
theorem dX1_passWeather_16 : decode prog_3_method_21_code 16 = .ok (.invokevirtual 148, 3) := by decide +kernel
theorem dX1_passWeather_19 : decode prog_3_method_21_code 19 = .ok (.bipush 6, 2) := by decide +kernel
theorem dX1_passWeather_21 : decode prog_3_method_21_code 21 = .ok (.irem, 1) := by decide +kernel
theorem dX1_passWeather_22 : decode prog_3_method_21_code 22 = .ok (.istore_n 1, 1) := by decide +kernel
theorem dX1_passWeather_23 : decode prog_3_method_21_code 23 = .ok (.iconst 0, 1) := by decide +kernel
theorem dX1_passWeather_24 : decode prog_3_method_21_code 24 = .ok (.istore_n 2, 1) := by decide +kernel
theorem dX1_passWeather_25 : decode prog_3_method_21_code 25 = .ok (.iload_n 2, 1) := by decide +kernel
theorem dX1_passWeather_26 : decode prog_3_method_21_code 26 = .ok (.aload_n 0, 1) := by decide +kernel
theorem dX1_passWeather_27 : decode prog_3_method_21_code 27 = .ok (.getfield 52, 3) := by decide +kernel
theorem dX1_passWeather_30 : decode prog_3_method_21_code 30 = .ok (.if_icmp .ge 44, 3) := by decide +kernel
theorem dX1_passWeather_33 : decode prog_3_method_21_code 33 = .ok (.aload_n 0, 1) := by decide +kernel
theorem dX1_passWeather_34 : decode prog_3_method_21_code 34 = .ok (.getfield 15, 3) := by decide +kernel
theorem dX1_passWeather_37 : decode prog_3_method_21_code 37 = .ok (.iload_n 2, 1) := by decide +kernel
theorem dX1_passWeather_38 : decode prog_3_method_21_code 38 = .ok (.invokestatic 83, 3) := by decide +kernel
theorem dX1_passWeather_41 : decode prog_3_method_21_code 41 = .ok (.iload_n 1, 1) := by decide +kernel
theorem dX1_passWeather_42 : decode prog_3_method_21_code 42 = .ok (.if_icmp .ne 26, 3) := by decide +kernel
theorem dX1_passWeather_45 : decode prog_3_method_21_code 45 = .ok (.aload_n 0, 1) := by decide +kernel
theorem dX1_passWeather_46 : decode prog_3_method_21_code 46 = .ok (.getfield 18, 3) := by decide +kernel
theorem dX1_passWeather_49 : decode prog_3_method_21_code 49 = .ok (.iload_n 2, 1) := by decide +kernel
theorem dX1_passWeather_50 : decode prog_3_method_21_code 50 = .ok (.bipush 99, 2) := by decide +kernel
theorem dX1_passWeather_52 : decode prog_3_method_21_code 52 = .ok (.aload_n 0, 1) := by decide +kernel
theorem dX1_passWeather_53 : decode prog_3_method_21_code 53 = .ok (.getfield 18, 3) := by decide +kernel
theorem dX1_passWeather_56 : decode prog_3_method_21_code 56 = .ok (.iload_n 2, 1) := by decide +kernel
theorem dX1_passWeather_57 : decode prog_3_method_21_code 57 = .ok (.invokestatic 83, 3) := by decide +kernel
theorem dX1_passWeather_60 : decode prog_3_method_21_code 60 = .ok (.iconst 2, 1) := by decide +kernel
theorem dX1_passWeather_61 : decode prog_3_method_21_code 61 = .ok (.iadd, 1) := by decide +kernel
theorem dX1_passWeather_62 : decode prog_3_method_21_code 62 = .ok (.invokestatic 136, 3) := by decide +kernel
theorem dX1_passWeather_65 : decode prog_3_method_21_code 65 = .ok (.invokestatic 79, 3) := by decide +kernel
theorem dX1_passWeather_68 : decode prog_3_method_21_code 68 = .ok (.iinc 2 1, 3) := by decide +kernel
theorem dX1_passWeather_71 : decode prog_3_method_21_code 71 = .ok (.goto (-46), 3) := by decide +kernel
theorem dX1_passWeather_74 : decode prog_3_method_21_code 74 = .ok (.return_, 1) := by decide +kernel
theorem dX1_draw_0 : decode prog_3_method_22_code 0 = .ok (.aload_n 0, 1) := by decide +kernel
theorem dX1_draw_1 : decode prog_3_method_22_code 1 = .ok (.ldc 151, 2) := by decide +kernel
theorem dX1_draw_3 : decode prog_3_method_22_code 3 = .ok (.aload_n 0, 1) := by decide +kernel
theorem dX1_draw_4 : decode prog_3_method_22_code 4 = .ok (.getfield 68, 3) := by decide +kernel
theorem dX1_draw_7 : decode prog_3_method_22_code 7 = .ok (.imul, 1) := by decide +kernel
theorem dX1_draw_8 : decode prog_3_method_22_code 8 = .ok (.sipush 12345, 3) := by decide +kernel
theorem dX1_draw_11 : decode prog_3_method_22_code 11 = .ok (.iadd, 1) := by decide +kernel
theorem dX1_draw_12 : decode prog_3_method_22_code 12 = .ok (.putfield 68, 3) := by decide +kernel
theorem dX1_draw_15 : decode prog_3_method_22_code 15 = .ok (.aload_n 0, 1) := by decide +kernel
theorem dX1_draw_16 : decode prog_3_method_22_code 16 = .ok (.getfield 68, 3) := by decide +kernel
theorem dX1_draw_19 : decode prog_3_method_22_code 19 = .ok (.bipush 16, 2) := by decide +kernel
theorem dX1_draw_21 : decode prog_3_method_22_code 21 = .ok (.iushr, 1) := by decide +kernel
theorem dX1_draw_22 : decode prog_3_method_22_code 22 = .ok (.sipush 32767, 3) := by decide +kernel
theorem dX1_draw_25 : decode prog_3_method_22_code 25 = .ok (.iand, 1) := by decide +kernel
theorem dX1_draw_26 : decode prog_3_method_22_code 26 = .ok (.ireturn, 1) := by decide +kernel
theorem dX1_daysLeft_0 : decode prog_3_method_5_code 0 = .ok (.sipush 182, 3) := by decide +kernel
theorem dX1_daysLeft_3 : decode prog_3_method_5_code 3 = .ok (.aload_n 0, 1) := by decide +kernel
theorem dX1_daysLeft_4 : decode prog_3_method_5_code 4 = .ok (.getfield 62, 3) := by decide +kernel
theorem dX1_daysLeft_7 : decode prog_3_method_5_code 7 = .ok (.sipush 182, 3) := by decide +kernel
theorem dX1_daysLeft_10 : decode prog_3_method_5_code 10 = .ok (.irem, 1) := by decide +kernel
theorem dX1_daysLeft_11 : decode prog_3_method_5_code 11 = .ok (.isub, 1) := by decide +kernel
theorem dX1_daysLeft_12 : decode prog_3_method_5_code 12 = .ok (.ireturn, 1) := by decide +kernel
theorem dX1_leave_0 : decode prog_3_method_23_code 0 = .ok (.aload_n 0, 1) := by decide +kernel
theorem dX1_leave_1 : decode prog_3_method_23_code 1 = .ok (.invokevirtual 152, 3) := by decide +kernel
theorem dX1_leave_4 : decode prog_3_method_23_code 4 = .ok (.istore_n 1, 1) := by decide +kernel
theorem dX1_leave_5 : decode prog_3_method_23_code 5 = .ok (.aload_n 0, 1) := by decide +kernel
theorem dX1_leave_6 : decode prog_3_method_23_code 6 = .ok (.invokevirtual 155, 3) := by decide +kernel
theorem dX1_leave_9 : decode prog_3_method_23_code 9 = .ok (.istore_n 2, 1) := by decide +kernel
theorem dX1_leave_10 : decode prog_3_method_23_code 10 = .ok (.aload_n 0, 1) := by decide +kernel
theorem dX1_leave_11 : decode prog_3_method_23_code 11 = .ok (.getfield 48, 3) := by decide +kernel
theorem dX1_leave_14 : decode prog_3_method_23_code 14 = .ok (.aload_n 0, 1) := by decide +kernel
theorem dX1_leave_15 : decode prog_3_method_23_code 15 = .ok (.getfield 62, 3) := by decide +kernel
theorem dX1_leave_18 : decode prog_3_method_23_code 18 = .ok (.iload_n 1, 1) := by decide +kernel
theorem dX1_leave_19 : decode prog_3_method_23_code 19 = .ok (.aload_n 0, 1) := by decide +kernel
theorem dX1_leave_20 : decode prog_3_method_23_code 20 = .ok (.invokevirtual 158, 3) := by decide +kernel
theorem dX1_leave_23 : decode prog_3_method_23_code 23 = .ok (.invokestatic 161, 3) := by decide +kernel
theorem dX1_leave_26 : decode prog_3_method_23_code 26 = .ok (.iload_n 2, 1) := by decide +kernel
theorem dX1_leave_27 : decode prog_3_method_23_code 27 = .ok (.invokevirtual 166, 3) := by decide +kernel
theorem dX1_leave_30 : decode prog_3_method_23_code 30 = .ok (.aload_n 0, 1) := by decide +kernel
theorem dX1_leave_31 : decode prog_3_method_23_code 31 = .ok (.getfield 42, 3) := by decide +kernel
theorem dX1_leave_34 : decode prog_3_method_23_code 34 = .ok (.iload_n 1, 1) := by decide +kernel
theorem dX1_leave_35 : decode prog_3_method_23_code 35 = .ok (.sipush 9999, 3) := by decide +kernel
theorem dX1_leave_38 : decode prog_3_method_23_code 38 = .ok (.aload_n 0, 1) := by decide +kernel
theorem dX1_leave_39 : decode prog_3_method_23_code 39 = .ok (.getfield 42, 3) := by decide +kernel
theorem dX1_leave_42 : decode prog_3_method_23_code 42 = .ok (.iload_n 1, 1) := by decide +kernel
theorem dX1_leave_43 : decode prog_3_method_23_code 43 = .ok (.invokestatic 83, 3) := by decide +kernel
theorem dX1_leave_46 : decode prog_3_method_23_code 46 = .ok (.iload_n 2, 1) := by decide +kernel
theorem dX1_leave_47 : decode prog_3_method_23_code 47 = .ok (.iadd, 1) := by decide +kernel
theorem dX1_leave_48 : decode prog_3_method_23_code 48 = .ok (.invokestatic 136, 3) := by decide +kernel
theorem dX1_leave_51 : decode prog_3_method_23_code 51 = .ok (.invokestatic 79, 3) := by decide +kernel
theorem dX1_leave_54 : decode prog_3_method_23_code 54 = .ok (.aload_n 0, 1) := by decide +kernel
theorem dX1_leave_55 : decode prog_3_method_23_code 55 = .ok (.invokevirtual 170, 3) := by decide +kernel
theorem dX1_leave_58 : decode prog_3_method_23_code 58 = .ok (.return_, 1) := by decide +kernel
theorem dX1_owedMore_0 : decode prog_3_method_17_code 0 = .ok (.iconst 0, 1) := by decide +kernel
theorem dX1_owedMore_1 : decode prog_3_method_17_code 1 = .ok (.aload_n 0, 1) := by decide +kernel
theorem dX1_owedMore_2 : decode prog_3_method_17_code 2 = .ok (.getfield 33, 3) := by decide +kernel
theorem dX1_owedMore_5 : decode prog_3_method_17_code 5 = .ok (.bipush 6, 2) := by decide +kernel
theorem dX1_owedMore_7 : decode prog_3_method_17_code 7 = .ok (.invokestatic 120, 3) := by decide +kernel
theorem dX1_owedMore_10 : decode prog_3_method_17_code 10 = .ok (.aload_n 0, 1) := by decide +kernel
theorem dX1_owedMore_11 : decode prog_3_method_17_code 11 = .ok (.getfield 65, 3) := by decide +kernel
theorem dX1_owedMore_14 : decode prog_3_method_17_code 14 = .ok (.isub, 1) := by decide +kernel
theorem dX1_owedMore_15 : decode prog_3_method_17_code 15 = .ok (.invokestatic 87, 3) := by decide +kernel
theorem dX1_owedMore_18 : decode prog_3_method_17_code 18 = .ok (.istore_n 1, 1) := by decide +kernel
theorem dX1_owedMore_19 : decode prog_3_method_17_code 19 = .ok (.iconst 0, 1) := by decide +kernel
theorem dX1_owedMore_20 : decode prog_3_method_17_code 20 = .ok (.istore_n 2, 1) := by decide +kernel
theorem dX1_owedMore_21 : decode prog_3_method_17_code 21 = .ok (.iload_n 2, 1) := by decide +kernel
theorem dX1_owedMore_22 : decode prog_3_method_17_code 22 = .ok (.aload_n 0, 1) := by decide +kernel
theorem dX1_owedMore_23 : decode prog_3_method_17_code 23 = .ok (.getfield 52, 3) := by decide +kernel
theorem dX1_owedMore_26 : decode prog_3_method_17_code 26 = .ok (.if_icmp .ge 17, 3) := by decide +kernel
theorem dX1_owedMore_29 : decode prog_3_method_17_code 29 = .ok (.iload_n 1, 1) := by decide +kernel
theorem dX1_owedMore_30 : decode prog_3_method_17_code 30 = .ok (.aload_n 0, 1) := by decide +kernel
theorem dX1_owedMore_31 : decode prog_3_method_17_code 31 = .ok (.iload_n 2, 1) := by decide +kernel
theorem dX1_owedMore_32 : decode prog_3_method_17_code 32 = .ok (.invokevirtual 123, 3) := by decide +kernel
theorem dX1_owedMore_35 : decode prog_3_method_17_code 35 = .ok (.iadd, 1) := by decide +kernel
theorem dX1_owedMore_36 : decode prog_3_method_17_code 36 = .ok (.istore_n 1, 1) := by decide +kernel
theorem dX1_owedMore_37 : decode prog_3_method_17_code 37 = .ok (.iinc 2 1, 3) := by decide +kernel
theorem dX1_owedMore_40 : decode prog_3_method_17_code 40 = .ok (.goto (-19), 3) := by decide +kernel
theorem dX1_owedMore_43 : decode prog_3_method_17_code 43 = .ok (.iload_n 1, 1) := by decide +kernel
theorem dX1_owedMore_44 : decode prog_3_method_17_code 44 = .ok (.ireturn, 1) := by decide +kernel
theorem dX1_owedFor_0 : decode prog_3_method_16_code 0 = .ok (.aload_n 0, 1) := by decide +kernel
theorem dX1_owedFor_1 : decode prog_3_method_16_code 1 = .ok (.iload_n 1, 1) := by decide +kernel
theorem dX1_owedFor_2 : decode prog_3_method_16_code 2 = .ok (.invokevirtual 116, 3) := by decide +kernel
theorem dX1_owedFor_5 : decode prog_3_method_16_code 5 = .ok (.ifCond .eq 14, 3) := by decide +kernel
theorem dX1_owedFor_8 : decode prog_3_method_16_code 8 = .ok (.aload_n 0, 1) := by decide +kernel
theorem dX1_owedFor_9 : decode prog_3_method_16_code 9 = .ok (.getfield 21, 3) := by decide +kernel
theorem dX1_owedFor_12 : decode prog_3_method_16_code 12 = .ok (.iload_n 1, 1) := by decide +kernel
theorem dX1_owedFor_13 : decode prog_3_method_16_code 13 = .ok (.invokestatic 83, 3) := by decide +kernel
theorem dX1_owedFor_16 : decode prog_3_method_16_code 16 = .ok (.goto 4, 3) := by decide +kernel
theorem dX1_owedFor_19 : decode prog_3_method_16_code 19 = .ok (.iconst 0, 1) := by decide +kernel
theorem dX1_owedFor_20 : decode prog_3_method_16_code 20 = .ok (.aload_n 0, 1) := by decide +kernel
theorem dX1_owedFor_21 : decode prog_3_method_16_code 21 = .ok (.iload_n 1, 1) := by decide +kernel
theorem dX1_owedFor_22 : decode prog_3_method_16_code 22 = .ok (.invokevirtual 96, 3) := by decide +kernel
theorem dX1_owedFor_25 : decode prog_3_method_16_code 25 = .ok (.iadd, 1) := by decide +kernel
theorem dX1_owedFor_26 : decode prog_3_method_16_code 26 = .ok (.ireturn, 1) := by decide +kernel
theorem dX4_add_0 : decode prog_6_method_3_code 0 = .ok (.aload_n 0, 1) := by decide +kernel
theorem dX4_add_1 : decode prog_6_method_3_code 1 = .ok (.aload_n 0, 1) := by decide +kernel
theorem dX4_add_2 : decode prog_6_method_3_code 2 = .ok (.getfield 15, 3) := by decide +kernel
theorem dX4_add_5 : decode prog_6_method_3_code 5 = .ok (.iconst 1, 1) := by decide +kernel
theorem dX4_add_6 : decode prog_6_method_3_code 6 = .ok (.iadd, 1) := by decide +kernel
theorem dX4_add_7 : decode prog_6_method_3_code 7 = .ok (.bipush 60, 2) := by decide +kernel
theorem dX4_add_9 : decode prog_6_method_3_code 9 = .ok (.irem, 1) := by decide +kernel
theorem dX4_add_10 : decode prog_6_method_3_code 10 = .ok (.putfield 15, 3) := by decide +kernel
theorem dX4_add_13 : decode prog_6_method_3_code 13 = .ok (.aload_n 0, 1) := by decide +kernel
theorem dX4_add_14 : decode prog_6_method_3_code 14 = .ok (.bipush 60, 2) := by decide +kernel
theorem dX4_add_16 : decode prog_6_method_3_code 16 = .ok (.aload_n 0, 1) := by decide +kernel
theorem dX4_add_17 : decode prog_6_method_3_code 17 = .ok (.getfield 19, 3) := by decide +kernel
theorem dX4_add_20 : decode prog_6_method_3_code 20 = .ok (.iconst 1, 1) := by decide +kernel
theorem dX4_add_21 : decode prog_6_method_3_code 21 = .ok (.iadd, 1) := by decide +kernel
theorem dX4_add_22 : decode prog_6_method_3_code 22 = .ok (.invokestatic 26, 3) := by decide +kernel
theorem dX4_add_25 : decode prog_6_method_3_code 25 = .ok (.putfield 19, 3) := by decide +kernel
theorem dX4_add_28 : decode prog_6_method_3_code 28 = .ok (.aload_n 0, 1) := by decide +kernel
theorem dX4_add_29 : decode prog_6_method_3_code 29 = .ok (.getfield 9, 3) := by decide +kernel
theorem dX4_add_32 : decode prog_6_method_3_code 32 = .ok (.aload_n 0, 1) := by decide +kernel
theorem dX4_add_33 : decode prog_6_method_3_code 33 = .ok (.getfield 15, 3) := by decide +kernel
theorem dX4_add_36 : decode prog_6_method_3_code 36 = .ok (.iconst 4, 1) := by decide +kernel
theorem dX4_add_37 : decode prog_6_method_3_code 37 = .ok (.imul, 1) := by decide +kernel
theorem dX4_add_38 : decode prog_6_method_3_code 38 = .ok (.iload_n 1, 1) := by decide +kernel
theorem dX4_add_39 : decode prog_6_method_3_code 39 = .ok (.invokestatic 32, 3) := by decide +kernel
theorem dX4_add_42 : decode prog_6_method_3_code 42 = .ok (.aload_n 0, 1) := by decide +kernel
theorem dX4_add_43 : decode prog_6_method_3_code 43 = .ok (.getfield 9, 3) := by decide +kernel
theorem dX4_add_46 : decode prog_6_method_3_code 46 = .ok (.aload_n 0, 1) := by decide +kernel
theorem dX4_add_47 : decode prog_6_method_3_code 47 = .ok (.getfield 15, 3) := by decide +kernel
theorem dX4_add_50 : decode prog_6_method_3_code 50 = .ok (.iconst 4, 1) := by decide +kernel
theorem dX4_add_51 : decode prog_6_method_3_code 51 = .ok (.imul, 1) := by decide +kernel
theorem dX4_add_52 : decode prog_6_method_3_code 52 = .ok (.iconst 1, 1) := by decide +kernel
theorem dX4_add_53 : decode prog_6_method_3_code 53 = .ok (.iadd, 1) := by decide +kernel
theorem dX4_add_54 : decode prog_6_method_3_code 54 = .ok (.iload_n 2, 1) := by decide +kernel
theorem dX4_add_55 : decode prog_6_method_3_code 55 = .ok (.invokestatic 32, 3) := by decide +kernel
theorem dX4_add_58 : decode prog_6_method_3_code 58 = .ok (.aload_n 0, 1) := by decide +kernel
theorem dX4_add_59 : decode prog_6_method_3_code 59 = .ok (.getfield 9, 3) := by decide +kernel
theorem dX4_add_62 : decode prog_6_method_3_code 62 = .ok (.aload_n 0, 1) := by decide +kernel
theorem dX4_add_63 : decode prog_6_method_3_code 63 = .ok (.getfield 15, 3) := by decide +kernel
theorem dX4_add_66 : decode prog_6_method_3_code 66 = .ok (.iconst 4, 1) := by decide +kernel
theorem dX4_add_67 : decode prog_6_method_3_code 67 = .ok (.imul, 1) := by decide +kernel
theorem dX4_add_68 : decode prog_6_method_3_code 68 = .ok (.iconst 2, 1) := by decide +kernel
theorem dX4_add_69 : decode prog_6_method_3_code 69 = .ok (.iadd, 1) := by decide +kernel
theorem dX4_add_70 : decode prog_6_method_3_code 70 = .ok (.iload_n 3, 1) := by decide +kernel
theorem dX4_add_71 : decode prog_6_method_3_code 71 = .ok (.invokestatic 32, 3) := by decide +kernel
theorem dX4_add_74 : decode prog_6_method_3_code 74 = .ok (.aload_n 0, 1) := by decide +kernel
theorem dX4_add_75 : decode prog_6_method_3_code 75 = .ok (.getfield 9, 3) := by decide +kernel
theorem dX4_add_78 : decode prog_6_method_3_code 78 = .ok (.aload_n 0, 1) := by decide +kernel
theorem dX4_add_79 : decode prog_6_method_3_code 79 = .ok (.getfield 15, 3) := by decide +kernel
theorem dX4_add_82 : decode prog_6_method_3_code 82 = .ok (.iconst 4, 1) := by decide +kernel
theorem dX4_add_83 : decode prog_6_method_3_code 83 = .ok (.imul, 1) := by decide +kernel
theorem dX4_add_84 : decode prog_6_method_3_code 84 = .ok (.iconst 3, 1) := by decide +kernel
theorem dX4_add_85 : decode prog_6_method_3_code 85 = .ok (.iadd, 1) := by decide +kernel
theorem dX4_add_86 : decode prog_6_method_3_code 86 = .ok (.iload 4, 2) := by decide +kernel
theorem dX4_add_88 : decode prog_6_method_3_code 88 = .ok (.invokestatic 32, 3) := by decide +kernel
theorem dX4_add_91 : decode prog_6_method_3_code 91 = .ok (.return_, 1) := by decide +kernel
theorem dX1_itemsWith_0 : decode prog_3_method_12_code 0 = .ok (.iconst 0, 1) := by decide +kernel
theorem dX1_itemsWith_1 : decode prog_3_method_12_code 1 = .ok (.istore_n 3, 1) := by decide +kernel
theorem dX1_itemsWith_2 : decode prog_3_method_12_code 2 = .ok (.iconst 0, 1) := by decide +kernel
theorem dX1_itemsWith_3 : decode prog_3_method_12_code 3 = .ok (.istore 4, 2) := by decide +kernel
theorem dX1_itemsWith_5 : decode prog_3_method_12_code 5 = .ok (.iload 4, 2) := by decide +kernel
theorem dX1_itemsWith_7 : decode prog_3_method_12_code 7 = .ok (.aload_n 0, 1) := by decide +kernel
theorem dX1_itemsWith_8 : decode prog_3_method_12_code 8 = .ok (.getfield 52, 3) := by decide +kernel
theorem dX1_itemsWith_11 : decode prog_3_method_12_code 11 = .ok (.if_icmp .ge 26, 3) := by decide +kernel
theorem dX1_itemsWith_14 : decode prog_3_method_12_code 14 = .ok (.aload_n 1, 1) := by decide +kernel
theorem dX1_itemsWith_15 : decode prog_3_method_12_code 15 = .ok (.iload 4, 2) := by decide +kernel
theorem dX1_itemsWith_17 : decode prog_3_method_12_code 17 = .ok (.invokestatic 83, 3) := by decide +kernel
theorem dX1_itemsWith_20 : decode prog_3_method_12_code 20 = .ok (.iload_n 2, 1) := by decide +kernel
theorem dX1_itemsWith_21 : decode prog_3_method_12_code 21 = .ok (.if_icmp .ne 10, 3) := by decide +kernel
theorem dX1_itemsWith_24 : decode prog_3_method_12_code 24 = .ok (.iload_n 3, 1) := by decide +kernel
theorem dX1_itemsWith_25 : decode prog_3_method_12_code 25 = .ok (.iconst 1, 1) := by decide +kernel
theorem dX1_itemsWith_26 : decode prog_3_method_12_code 26 = .ok (.iload 4, 2) := by decide +kernel
theorem dX1_itemsWith_28 : decode prog_3_method_12_code 28 = .ok (.ishl, 1) := by decide +kernel
theorem dX1_itemsWith_29 : decode prog_3_method_12_code 29 = .ok (.ior, 1) := by decide +kernel
theorem dX1_itemsWith_30 : decode prog_3_method_12_code 30 = .ok (.istore_n 3, 1) := by decide +kernel
theorem dX1_itemsWith_31 : decode prog_3_method_12_code 31 = .ok (.iinc 4 1, 3) := by decide +kernel
theorem dX1_itemsWith_34 : decode prog_3_method_12_code 34 = .ok (.goto (-29), 3) := by decide +kernel
theorem dX1_itemsWith_37 : decode prog_3_method_12_code 37 = .ok (.iload_n 3, 1) := by decide +kernel
theorem dX1_itemsWith_38 : decode prog_3_method_12_code 38 = .ok (.ireturn, 1) := by decide +kernel
theorem dX1_missingValue_0 : decode prog_3_method_14_code 0 = .ok (.iconst 0, 1) := by decide +kernel
theorem dX1_missingValue_1 : decode prog_3_method_14_code 1 = .ok (.istore_n 1, 1) := by decide +kernel
theorem dX1_missingValue_2 : decode prog_3_method_14_code 2 = .ok (.iconst 0, 1) := by decide +kernel
theorem dX1_missingValue_3 : decode prog_3_method_14_code 3 = .ok (.istore_n 2, 1) := by decide +kernel
theorem dX1_missingValue_4 : decode prog_3_method_14_code 4 = .ok (.iload_n 2, 1) := by decide +kernel
theorem dX1_missingValue_5 : decode prog_3_method_14_code 5 = .ok (.aload_n 0, 1) := by decide +kernel
theorem dX1_missingValue_6 : decode prog_3_method_14_code 6 = .ok (.getfield 52, 3) := by decide +kernel
theorem dX1_missingValue_9 : decode prog_3_method_14_code 9 = .ok (.if_icmp .ge 28, 3) := by decide +kernel
theorem dX1_missingValue_12 : decode prog_3_method_14_code 12 = .ok (.aload_n 0, 1) := by decide +kernel
theorem dX1_missingValue_13 : decode prog_3_method_14_code 13 = .ok (.iload_n 2, 1) := by decide +kernel
theorem dX1_missingValue_14 : decode prog_3_method_14_code 14 = .ok (.invokevirtual 116, 3) := by decide +kernel
theorem dX1_missingValue_17 : decode prog_3_method_14_code 17 = .ok (.ifCond .eq 14, 3) := by decide +kernel
theorem dX1_missingValue_20 : decode prog_3_method_14_code 20 = .ok (.iload_n 1, 1) := by decide +kernel
theorem dX1_missingValue_21 : decode prog_3_method_14_code 21 = .ok (.aload_n 0, 1) := by decide +kernel
theorem dX1_missingValue_22 : decode prog_3_method_14_code 22 = .ok (.getfield 21, 3) := by decide +kernel
theorem dX1_missingValue_25 : decode prog_3_method_14_code 25 = .ok (.iload_n 2, 1) := by decide +kernel
theorem dX1_missingValue_26 : decode prog_3_method_14_code 26 = .ok (.invokestatic 83, 3) := by decide +kernel
theorem dX1_missingValue_29 : decode prog_3_method_14_code 29 = .ok (.iadd, 1) := by decide +kernel
theorem dX1_missingValue_30 : decode prog_3_method_14_code 30 = .ok (.istore_n 1, 1) := by decide +kernel
theorem dX1_missingValue_31 : decode prog_3_method_14_code 31 = .ok (.iinc 2 1, 3) := by decide +kernel
theorem dX1_missingValue_34 : decode prog_3_method_14_code 34 = .ok (.goto (-30), 3) := by decide +kernel
theorem dX1_missingValue_37 : decode prog_3_method_14_code 37 = .ok (.iload_n 1, 1) := by decide +kernel
theorem dX1_missingValue_38 : decode prog_3_method_14_code 38 = .ok (.ireturn, 1) := by decide +kernel
theorem dX6_fill_0 : decode prog_8_method_2_code 0 = .ok (.aload_n 0, 1) := by decide +kernel
theorem dX6_fill_1 : decode prog_8_method_2_code 1 = .ok (.getfield 9, 3) := by decide +kernel
theorem dX6_fill_4 : decode prog_8_method_2_code 4 = .ok (.aload_n 1, 1) := by decide +kernel
theorem dX6_fill_5 : decode prog_8_method_2_code 5 = .ok (.iconst 0, 1) := by decide +kernel
theorem dX6_fill_6 : decode prog_8_method_2_code 6 = .ok (.invokestatic 16, 3) := by decide +kernel
theorem dX6_fill_9 : decode prog_8_method_2_code 9 = .ok (.aload_n 0, 1) := by decide +kernel
theorem dX6_fill_10 : decode prog_8_method_2_code 10 = .ok (.getfield 13, 3) := by decide +kernel
theorem dX6_fill_13 : decode prog_8_method_2_code 13 = .ok (.aload_n 1, 1) := by decide +kernel
theorem dX6_fill_14 : decode prog_8_method_2_code 14 = .ok (.bipush 6, 2) := by decide +kernel
theorem dX6_fill_16 : decode prog_8_method_2_code 16 = .ok (.invokestatic 16, 3) := by decide +kernel
theorem dX6_fill_19 : decode prog_8_method_2_code 19 = .ok (.return_, 1) := by decide +kernel
theorem dX6_fillHalf_0 : decode prog_8_method_3_code 0 = .ok (.iconst 0, 1) := by decide +kernel
theorem dX6_fillHalf_1 : decode prog_8_method_3_code 1 = .ok (.istore_n 3, 1) := by decide +kernel
theorem dX6_fillHalf_2 : decode prog_8_method_3_code 2 = .ok (.iload_n 3, 1) := by decide +kernel
theorem dX6_fillHalf_3 : decode prog_8_method_3_code 3 = .ok (.bipush 6, 2) := by decide +kernel
theorem dX6_fillHalf_5 : decode prog_8_method_3_code 5 = .ok (.if_icmp .ge 50, 3) := by decide +kernel
theorem dX6_fillHalf_8 : decode prog_8_method_3_code 8 = .ok (.iconst 0, 1) := by decide +kernel
theorem dX6_fillHalf_9 : decode prog_8_method_3_code 9 = .ok (.istore 4, 2) := by decide +kernel
theorem dX6_fillHalf_11 : decode prog_8_method_3_code 11 = .ok (.iload 4, 2) := by decide +kernel
theorem dX6_fillHalf_13 : decode prog_8_method_3_code 13 = .ok (.iconst 1, 1) := by decide +kernel
theorem dX6_fillHalf_14 : decode prog_8_method_3_code 14 = .ok (.iload_n 3, 1) := by decide +kernel
theorem dX6_fillHalf_15 : decode prog_8_method_3_code 15 = .ok (.ishl, 1) := by decide +kernel
theorem dX6_fillHalf_16 : decode prog_8_method_3_code 16 = .ok (.if_icmp .ge 33, 3) := by decide +kernel
theorem dX6_fillHalf_19 : decode prog_8_method_3_code 19 = .ok (.aload_n 0, 1) := by decide +kernel
theorem dX6_fillHalf_20 : decode prog_8_method_3_code 20 = .ok (.iload 4, 2) := by decide +kernel
theorem dX6_fillHalf_22 : decode prog_8_method_3_code 22 = .ok (.iconst 1, 1) := by decide +kernel
theorem dX6_fillHalf_23 : decode prog_8_method_3_code 23 = .ok (.iload_n 3, 1) := by decide +kernel
theorem dX6_fillHalf_24 : decode prog_8_method_3_code 24 = .ok (.ishl, 1) := by decide +kernel
theorem dX6_fillHalf_25 : decode prog_8_method_3_code 25 = .ok (.iadd, 1) := by decide +kernel
theorem dX6_fillHalf_26 : decode prog_8_method_3_code 26 = .ok (.aload_n 0, 1) := by decide +kernel
theorem dX6_fillHalf_27 : decode prog_8_method_3_code 27 = .ok (.iload 4, 2) := by decide +kernel
theorem dX6_fillHalf_29 : decode prog_8_method_3_code 29 = .ok (.invokestatic 20, 3) := by decide +kernel
theorem dX6_fillHalf_32 : decode prog_8_method_3_code 32 = .ok (.aload_n 1, 1) := by decide +kernel
theorem dX6_fillHalf_33 : decode prog_8_method_3_code 33 = .ok (.iload_n 2, 1) := by decide +kernel
theorem dX6_fillHalf_34 : decode prog_8_method_3_code 34 = .ok (.iload_n 3, 1) := by decide +kernel
theorem dX6_fillHalf_35 : decode prog_8_method_3_code 35 = .ok (.iadd, 1) := by decide +kernel
theorem dX6_fillHalf_36 : decode prog_8_method_3_code 36 = .ok (.invokestatic 20, 3) := by decide +kernel
theorem dX6_fillHalf_39 : decode prog_8_method_3_code 39 = .ok (.iadd, 1) := by decide +kernel
theorem dX6_fillHalf_40 : decode prog_8_method_3_code 40 = .ok (.invokestatic 26, 3) := by decide +kernel
theorem dX6_fillHalf_43 : decode prog_8_method_3_code 43 = .ok (.iinc 4 1, 3) := by decide +kernel
theorem dX6_fillHalf_46 : decode prog_8_method_3_code 46 = .ok (.goto (-35), 3) := by decide +kernel
theorem dX6_fillHalf_49 : decode prog_8_method_3_code 49 = .ok (.iinc 3 1, 3) := by decide +kernel
theorem dX6_fillHalf_52 : decode prog_8_method_3_code 52 = .ok (.goto (-50), 3) := by decide +kernel
theorem dX6_fillHalf_55 : decode prog_8_method_3_code 55 = .ok (.return_, 1) := by decide +kernel
theorem dX6_of_0 : decode prog_8_method_4_code 0 = .ok (.aload_n 0, 1) := by decide +kernel
theorem dX6_of_1 : decode prog_8_method_4_code 1 = .ok (.getfield 9, 3) := by decide +kernel
theorem dX6_of_4 : decode prog_8_method_4_code 4 = .ok (.iload_n 1, 1) := by decide +kernel
theorem dX6_of_5 : decode prog_8_method_4_code 5 = .ok (.bipush 63, 2) := by decide +kernel
theorem dX6_of_7 : decode prog_8_method_4_code 7 = .ok (.iand, 1) := by decide +kernel
theorem dX6_of_8 : decode prog_8_method_4_code 8 = .ok (.invokestatic 20, 3) := by decide +kernel
theorem dX6_of_11 : decode prog_8_method_4_code 11 = .ok (.aload_n 0, 1) := by decide +kernel
theorem dX6_of_12 : decode prog_8_method_4_code 12 = .ok (.getfield 13, 3) := by decide +kernel
theorem dX6_of_15 : decode prog_8_method_4_code 15 = .ok (.iload_n 1, 1) := by decide +kernel
theorem dX6_of_16 : decode prog_8_method_4_code 16 = .ok (.bipush 6, 2) := by decide +kernel
theorem dX6_of_18 : decode prog_8_method_4_code 18 = .ok (.ishr, 1) := by decide +kernel
theorem dX6_of_19 : decode prog_8_method_4_code 19 = .ok (.bipush 63, 2) := by decide +kernel
theorem dX6_of_21 : decode prog_8_method_4_code 21 = .ok (.iand, 1) := by decide +kernel
theorem dX6_of_22 : decode prog_8_method_4_code 22 = .ok (.invokestatic 20, 3) := by decide +kernel
theorem dX6_of_25 : decode prog_8_method_4_code 25 = .ok (.iadd, 1) := by decide +kernel
theorem dX6_of_26 : decode prog_8_method_4_code 26 = .ok (.ireturn, 1) := by decide +kernel
theorem dX1_valueIn_0 : decode prog_3_method_15_code 0 = .ok (.iconst 0, 1) := by decide +kernel
theorem dX1_valueIn_1 : decode prog_3_method_15_code 1 = .ok (.istore_n 2, 1) := by decide +kernel
theorem dX1_valueIn_2 : decode prog_3_method_15_code 2 = .ok (.iconst 0, 1) := by decide +kernel
theorem dX1_valueIn_3 : decode prog_3_method_15_code 3 = .ok (.istore_n 3, 1) := by decide +kernel
theorem dX1_valueIn_4 : decode prog_3_method_15_code 4 = .ok (.iload_n 3, 1) := by decide +kernel
theorem dX1_valueIn_5 : decode prog_3_method_15_code 5 = .ok (.aload_n 0, 1) := by decide +kernel
theorem dX1_valueIn_6 : decode prog_3_method_15_code 6 = .ok (.getfield 52, 3) := by decide +kernel
theorem dX1_valueIn_9 : decode prog_3_method_15_code 9 = .ok (.if_icmp .ge 32, 3) := by decide +kernel
theorem dX1_valueIn_12 : decode prog_3_method_15_code 12 = .ok (.aload_n 0, 1) := by decide +kernel
theorem dX1_valueIn_13 : decode prog_3_method_15_code 13 = .ok (.getfield 15, 3) := by decide +kernel
theorem dX1_valueIn_16 : decode prog_3_method_15_code 16 = .ok (.iload_n 3, 1) := by decide +kernel
theorem dX1_valueIn_17 : decode prog_3_method_15_code 17 = .ok (.invokestatic 83, 3) := by decide +kernel
theorem dX1_valueIn_20 : decode prog_3_method_15_code 20 = .ok (.iload_n 1, 1) := by decide +kernel
theorem dX1_valueIn_21 : decode prog_3_method_15_code 21 = .ok (.if_icmp .ne 14, 3) := by decide +kernel
theorem dX1_valueIn_24 : decode prog_3_method_15_code 24 = .ok (.iload_n 2, 1) := by decide +kernel
theorem dX1_valueIn_25 : decode prog_3_method_15_code 25 = .ok (.aload_n 0, 1) := by decide +kernel
theorem dX1_valueIn_26 : decode prog_3_method_15_code 26 = .ok (.getfield 21, 3) := by decide +kernel
theorem dX1_valueIn_29 : decode prog_3_method_15_code 29 = .ok (.iload_n 3, 1) := by decide +kernel
theorem dX1_valueIn_30 : decode prog_3_method_15_code 30 = .ok (.invokestatic 83, 3) := by decide +kernel
theorem dX1_valueIn_33 : decode prog_3_method_15_code 33 = .ok (.iadd, 1) := by decide +kernel
theorem dX1_valueIn_34 : decode prog_3_method_15_code 34 = .ok (.istore_n 2, 1) := by decide +kernel
theorem dX1_valueIn_35 : decode prog_3_method_15_code 35 = .ok (.iinc 3 1, 3) := by decide +kernel
theorem dX1_valueIn_38 : decode prog_3_method_15_code 38 = .ok (.goto (-34), 3) := by decide +kernel
theorem dX1_valueIn_41 : decode prog_3_method_15_code 41 = .ok (.iload_n 2, 1) := by decide +kernel
theorem dX1_valueIn_42 : decode prog_3_method_15_code 42 = .ok (.ireturn, 1) := by decide +kernel
theorem dX5_open_0 : decode prog_7_method_2_code 0 = .ok (.aload_n 1, 1) := by decide +kernel
theorem dX5_open_1 : decode prog_7_method_2_code 1 = .ok (.aload_n 0, 1) := by decide +kernel
theorem dX5_open_2 : decode prog_7_method_2_code 2 = .ok (.getfield 9, 3) := by decide +kernel
theorem dX5_open_5 : decode prog_7_method_2_code 5 = .ok (.invokestatic 28, 3) := by decide +kernel
theorem dX5_open_8 : decode prog_7_method_2_code 8 = .ok (.aload_n 0, 1) := by decide +kernel
theorem dX5_open_9 : decode prog_7_method_2_code 9 = .ok (.iload_n 2, 1) := by decide +kernel
theorem dX5_open_10 : decode prog_7_method_2_code 10 = .ok (.aload_n 0, 1) := by decide +kernel
theorem dX5_open_11 : decode prog_7_method_2_code 11 = .ok (.getfield 9, 3) := by decide +kernel
theorem dX5_open_14 : decode prog_7_method_2_code 14 = .ok (.arraylength, 1) := by decide +kernel
theorem dX5_open_15 : decode prog_7_method_2_code 15 = .ok (.invokestatic 32, 3) := by decide +kernel
theorem dX5_open_18 : decode prog_7_method_2_code 18 = .ok (.putfield 15, 3) := by decide +kernel
theorem dX5_open_21 : decode prog_7_method_2_code 21 = .ok (.aload_n 0, 1) := by decide +kernel
theorem dX5_open_22 : decode prog_7_method_2_code 22 = .ok (.iconst 0, 1) := by decide +kernel
theorem dX5_open_23 : decode prog_7_method_2_code 23 = .ok (.putfield 22, 3) := by decide +kernel
theorem dX5_open_26 : decode prog_7_method_2_code 26 = .ok (.aload_n 0, 1) := by decide +kernel
theorem dX5_open_27 : decode prog_7_method_2_code 27 = .ok (.iconst (-1), 1) := by decide +kernel
theorem dX5_open_28 : decode prog_7_method_2_code 28 = .ok (.putfield 25, 3) := by decide +kernel
theorem dX5_open_31 : decode prog_7_method_2_code 31 = .ok (.aload_n 0, 1) := by decide +kernel
theorem dX5_open_32 : decode prog_7_method_2_code 32 = .ok (.invokevirtual 38, 3) := by decide +kernel
theorem dX5_open_35 : decode prog_7_method_2_code 35 = .ok (.return_, 1) := by decide +kernel
theorem dX5_step_0 : decode prog_7_method_3_code 0 = .ok (.iconst 0, 1) := by decide +kernel
theorem dX5_step_1 : decode prog_7_method_3_code 1 = .ok (.aload_n 0, 1) := by decide +kernel
theorem dX5_step_2 : decode prog_7_method_3_code 2 = .ok (.getfield 22, 3) := by decide +kernel
theorem dX5_step_5 : decode prog_7_method_3_code 5 = .ok (.invokestatic 41, 3) := by decide +kernel
theorem dX5_step_8 : decode prog_7_method_3_code 8 = .ok (.istore_n 1, 1) := by decide +kernel
theorem dX5_step_9 : decode prog_7_method_3_code 9 = .ok (.iload_n 1, 1) := by decide +kernel
theorem dX5_step_10 : decode prog_7_method_3_code 10 = .ok (.aload_n 0, 1) := by decide +kernel
theorem dX5_step_11 : decode prog_7_method_3_code 11 = .ok (.getfield 15, 3) := by decide +kernel
theorem dX5_step_14 : decode prog_7_method_3_code 14 = .ok (.if_icmp .ge 29, 3) := by decide +kernel
theorem dX5_step_17 : decode prog_7_method_3_code 17 = .ok (.iload_n 1, 1) := by decide +kernel
theorem dX5_step_18 : decode prog_7_method_3_code 18 = .ok (.aload_n 0, 1) := by decide +kernel
theorem dX5_step_19 : decode prog_7_method_3_code 19 = .ok (.getfield 9, 3) := by decide +kernel
theorem dX5_step_22 : decode prog_7_method_3_code 22 = .ok (.arraylength, 1) := by decide +kernel
theorem dX5_step_23 : decode prog_7_method_3_code 23 = .ok (.if_icmp .ge 20, 3) := by decide +kernel
theorem dX5_step_26 : decode prog_7_method_3_code 26 = .ok (.aload_n 0, 1) := by decide +kernel
theorem dX5_step_27 : decode prog_7_method_3_code 27 = .ok (.getfield 9, 3) := by decide +kernel
theorem dX5_step_30 : decode prog_7_method_3_code 30 = .ok (.iload_n 1, 1) := by decide +kernel
theorem dX5_step_31 : decode prog_7_method_3_code 31 = .ok (.iaload, 1) := by decide +kernel
theorem dX5_step_32 : decode prog_7_method_3_code 32 = .ok (.bipush 32, 2) := by decide +kernel
theorem dX5_step_34 : decode prog_7_method_3_code 34 = .ok (.if_icmp .ne 9, 3) := by decide +kernel
theorem dX5_step_37 : decode prog_7_method_3_code 37 = .ok (.iinc 1 1, 3) := by decide +kernel
theorem dX5_step_40 : decode prog_7_method_3_code 40 = .ok (.goto (-31), 3) := by decide +kernel
theorem dX5_step_43 : decode prog_7_method_3_code 43 = .ok (.aload_n 0, 1) := by decide +kernel
theorem dX5_step_44 : decode prog_7_method_3_code 44 = .ok (.iload_n 1, 1) := by decide +kernel
theorem dX5_step_45 : decode prog_7_method_3_code 45 = .ok (.putfield 19, 3) := by decide +kernel
theorem dX5_step_48 : decode prog_7_method_3_code 48 = .ok (.iload_n 1, 1) := by decide +kernel
theorem dX5_step_49 : decode prog_7_method_3_code 49 = .ok (.aload_n 0, 1) := by decide +kernel
theorem dX5_step_50 : decode prog_7_method_3_code 50 = .ok (.getfield 15, 3) := by decide +kernel
theorem dX5_step_53 : decode prog_7_method_3_code 53 = .ok (.if_icmp .ge 21, 3) := by decide +kernel
theorem dX5_step_56 : decode prog_7_method_3_code 56 = .ok (.iload_n 1, 1) := by decide +kernel
theorem dX5_step_57 : decode prog_7_method_3_code 57 = .ok (.aload_n 0, 1) := by decide +kernel
theorem dX5_step_58 : decode prog_7_method_3_code 58 = .ok (.getfield 9, 3) := by decide +kernel
theorem dX5_step_61 : decode prog_7_method_3_code 61 = .ok (.arraylength, 1) := by decide +kernel
theorem dX5_step_62 : decode prog_7_method_3_code 62 = .ok (.if_icmp .ge 12, 3) := by decide +kernel
theorem dX5_step_65 : decode prog_7_method_3_code 65 = .ok (.aload_n 0, 1) := by decide +kernel
theorem dX5_step_66 : decode prog_7_method_3_code 66 = .ok (.getfield 9, 3) := by decide +kernel
theorem dX5_step_69 : decode prog_7_method_3_code 69 = .ok (.iload_n 1, 1) := by decide +kernel
theorem dX5_step_70 : decode prog_7_method_3_code 70 = .ok (.iaload, 1) := by decide +kernel
theorem dX5_step_71 : decode prog_7_method_3_code 71 = .ok (.goto 4, 3) := by decide +kernel
theorem dX5_step_74 : decode prog_7_method_3_code 74 = .ok (.iconst (-1), 1) := by decide +kernel
theorem dX5_step_75 : decode prog_7_method_3_code 75 = .ok (.istore_n 2, 1) := by decide +kernel
theorem dX5_step_76 : decode prog_7_method_3_code 76 = .ok (.iload_n 2, 1) := by decide +kernel
theorem dX5_step_77 : decode prog_7_method_3_code 77 = .ok (.bipush 97, 2) := by decide +kernel
theorem dX5_step_79 : decode prog_7_method_3_code 79 = .ok (.if_icmp .lt 13, 3) := by decide +kernel
theorem dX5_step_82 : decode prog_7_method_3_code 82 = .ok (.iload_n 2, 1) := by decide +kernel
theorem dX5_step_83 : decode prog_7_method_3_code 83 = .ok (.bipush 122, 2) := by decide +kernel
theorem dX5_step_85 : decode prog_7_method_3_code 85 = .ok (.if_icmp .gt 7, 3) := by decide +kernel
theorem dX5_step_88 : decode prog_7_method_3_code 88 = .ok (.iconst 1, 1) := by decide +kernel
theorem dX5_step_89 : decode prog_7_method_3_code 89 = .ok (.goto 4, 3) := by decide +kernel
theorem dX5_step_92 : decode prog_7_method_3_code 92 = .ok (.iconst 0, 1) := by decide +kernel
theorem dX5_step_93 : decode prog_7_method_3_code 93 = .ok (.istore_n 3, 1) := by decide +kernel
theorem dX5_step_94 : decode prog_7_method_3_code 94 = .ok (.iload_n 2, 1) := by decide +kernel
theorem dX5_step_95 : decode prog_7_method_3_code 95 = .ok (.bipush 48, 2) := by decide +kernel
theorem dX5_step_97 : decode prog_7_method_3_code 97 = .ok (.if_icmp .lt 13, 3) := by decide +kernel
theorem dX5_step_100 : decode prog_7_method_3_code 100 = .ok (.iload_n 2, 1) := by decide +kernel
theorem dX5_step_101 : decode prog_7_method_3_code 101 = .ok (.bipush 57, 2) := by decide +kernel
theorem dX5_step_103 : decode prog_7_method_3_code 103 = .ok (.if_icmp .gt 7, 3) := by decide +kernel
theorem dX5_step_106 : decode prog_7_method_3_code 106 = .ok (.iconst 1, 1) := by decide +kernel
theorem dX5_step_107 : decode prog_7_method_3_code 107 = .ok (.goto 4, 3) := by decide +kernel
theorem dX5_step_110 : decode prog_7_method_3_code 110 = .ok (.iconst 0, 1) := by decide +kernel
theorem dX5_step_111 : decode prog_7_method_3_code 111 = .ok (.istore 4, 2) := by decide +kernel
theorem dX5_step_113 : decode prog_7_method_3_code 113 = .ok (.iload_n 3, 1) := by decide +kernel
theorem dX5_step_114 : decode prog_7_method_3_code 114 = .ok (.ifCond .eq 8, 3) := by decide +kernel
theorem dX5_step_117 : decode prog_7_method_3_code 117 = .ok (.bipush 97, 2) := by decide +kernel
theorem dX5_step_119 : decode prog_7_method_3_code 119 = .ok (.goto 5, 3) := by decide +kernel
theorem dX5_step_122 : decode prog_7_method_3_code 122 = .ok (.bipush 48, 2) := by decide +kernel
theorem dX5_step_124 : decode prog_7_method_3_code 124 = .ok (.istore 5, 2) := by decide +kernel
theorem dX5_step_126 : decode prog_7_method_3_code 126 = .ok (.iload_n 3, 1) := by decide +kernel
theorem dX5_step_127 : decode prog_7_method_3_code 127 = .ok (.ifCond .eq 8, 3) := by decide +kernel
theorem dX5_step_130 : decode prog_7_method_3_code 130 = .ok (.bipush 122, 2) := by decide +kernel
theorem dX5_step_132 : decode prog_7_method_3_code 132 = .ok (.goto 5, 3) := by decide +kernel
theorem dX5_step_135 : decode prog_7_method_3_code 135 = .ok (.bipush 57, 2) := by decide +kernel
theorem dX5_step_137 : decode prog_7_method_3_code 137 = .ok (.istore 6, 2) := by decide +kernel
theorem dX5_step_139 : decode prog_7_method_3_code 139 = .ok (.iload_n 1, 1) := by decide +kernel
theorem dX5_step_140 : decode prog_7_method_3_code 140 = .ok (.aload_n 0, 1) := by decide +kernel
theorem dX5_step_141 : decode prog_7_method_3_code 141 = .ok (.getfield 15, 3) := by decide +kernel
theorem dX5_step_144 : decode prog_7_method_3_code 144 = .ok (.if_icmp .ge 57, 3) := by decide +kernel
theorem dX5_step_147 : decode prog_7_method_3_code 147 = .ok (.iload_n 1, 1) := by decide +kernel
theorem dX5_step_148 : decode prog_7_method_3_code 148 = .ok (.aload_n 0, 1) := by decide +kernel
theorem dX5_step_149 : decode prog_7_method_3_code 149 = .ok (.getfield 9, 3) := by decide +kernel
theorem dX5_step_152 : decode prog_7_method_3_code 152 = .ok (.arraylength, 1) := by decide +kernel
theorem dX5_step_153 : decode prog_7_method_3_code 153 = .ok (.if_icmp .ge 48, 3) := by decide +kernel
theorem dX5_step_156 : decode prog_7_method_3_code 156 = .ok (.iload_n 1, 1) := by decide +kernel
theorem dX5_step_157 : decode prog_7_method_3_code 157 = .ok (.aload_n 0, 1) := by decide +kernel
theorem dX5_step_158 : decode prog_7_method_3_code 158 = .ok (.getfield 19, 3) := by decide +kernel
theorem dX5_step_161 : decode prog_7_method_3_code 161 = .ok (.if_icmp .eq 34, 3) := by decide +kernel
theorem dX5_step_164 : decode prog_7_method_3_code 164 = .ok (.iload_n 3, 1) := by decide +kernel
theorem dX5_step_165 : decode prog_7_method_3_code 165 = .ok (.ifCond .ne 8, 3) := by decide +kernel
theorem dX5_step_168 : decode prog_7_method_3_code 168 = .ok (.iload 4, 2) := by decide +kernel
theorem dX5_step_170 : decode prog_7_method_3_code 170 = .ok (.ifCond .eq 31, 3) := by decide +kernel
theorem dX5_step_173 : decode prog_7_method_3_code 173 = .ok (.aload_n 0, 1) := by decide +kernel
theorem dX5_step_174 : decode prog_7_method_3_code 174 = .ok (.getfield 9, 3) := by decide +kernel
theorem dX5_step_177 : decode prog_7_method_3_code 177 = .ok (.iload_n 1, 1) := by decide +kernel
theorem dX5_step_178 : decode prog_7_method_3_code 178 = .ok (.iaload, 1) := by decide +kernel
theorem dX5_step_179 : decode prog_7_method_3_code 179 = .ok (.iload 5, 2) := by decide +kernel
theorem dX5_step_181 : decode prog_7_method_3_code 181 = .ok (.if_icmp .lt 20, 3) := by decide +kernel
theorem dX5_step_184 : decode prog_7_method_3_code 184 = .ok (.aload_n 0, 1) := by decide +kernel
theorem dX5_step_185 : decode prog_7_method_3_code 185 = .ok (.getfield 9, 3) := by decide +kernel
theorem dX5_step_188 : decode prog_7_method_3_code 188 = .ok (.iload_n 1, 1) := by decide +kernel
theorem dX5_step_189 : decode prog_7_method_3_code 189 = .ok (.iaload, 1) := by decide +kernel
theorem dX5_step_190 : decode prog_7_method_3_code 190 = .ok (.iload 6, 2) := by decide +kernel
theorem dX5_step_192 : decode prog_7_method_3_code 192 = .ok (.if_icmp .gt 9, 3) := by decide +kernel
theorem dX5_step_195 : decode prog_7_method_3_code 195 = .ok (.iinc 1 1, 3) := by decide +kernel
theorem dX5_step_198 : decode prog_7_method_3_code 198 = .ok (.goto (-59), 3) := by decide +kernel
theorem dX5_step_201 : decode prog_7_method_3_code 201 = .ok (.aload_n 0, 1) := by decide +kernel
theorem dX5_step_202 : decode prog_7_method_3_code 202 = .ok (.iload_n 1, 1) := by decide +kernel
theorem dX5_step_203 : decode prog_7_method_3_code 203 = .ok (.putfield 22, 3) := by decide +kernel
theorem dX5_step_206 : decode prog_7_method_3_code 206 = .ok (.return_, 1) := by decide +kernel
theorem dX5_isEnd_0 : decode prog_7_method_5_code 0 = .ok (.aload_n 0, 1) := by decide +kernel
theorem dX5_isEnd_1 : decode prog_7_method_5_code 1 = .ok (.getfield 19, 3) := by decide +kernel
theorem dX5_isEnd_4 : decode prog_7_method_5_code 4 = .ok (.aload_n 0, 1) := by decide +kernel
theorem dX5_isEnd_5 : decode prog_7_method_5_code 5 = .ok (.getfield 15, 3) := by decide +kernel
theorem dX5_isEnd_8 : decode prog_7_method_5_code 8 = .ok (.if_icmp .lt 7, 3) := by decide +kernel
theorem dX5_isEnd_11 : decode prog_7_method_5_code 11 = .ok (.iconst 1, 1) := by decide +kernel
theorem dX5_isEnd_12 : decode prog_7_method_5_code 12 = .ok (.goto 4, 3) := by decide +kernel
theorem dX5_isEnd_15 : decode prog_7_method_5_code 15 = .ok (.iconst 0, 1) := by decide +kernel
theorem dX5_isEnd_16 : decode prog_7_method_5_code 16 = .ok (.ireturn, 1) := by decide +kernel
theorem dX5_refuse_0 : decode prog_7_method_10_code 0 = .ok (.aload_n 0, 1) := by decide +kernel
theorem dX5_refuse_1 : decode prog_7_method_10_code 1 = .ok (.getfield 25, 3) := by decide +kernel
theorem dX5_refuse_4 : decode prog_7_method_10_code 4 = .ok (.iconst (-1), 1) := by decide +kernel
theorem dX5_refuse_5 : decode prog_7_method_10_code 5 = .ok (.if_icmp .ne 11, 3) := by decide +kernel
theorem dX5_refuse_8 : decode prog_7_method_10_code 8 = .ok (.aload_n 0, 1) := by decide +kernel
theorem dX5_refuse_9 : decode prog_7_method_10_code 9 = .ok (.aload_n 0, 1) := by decide +kernel
theorem dX5_refuse_10 : decode prog_7_method_10_code 10 = .ok (.getfield 19, 3) := by decide +kernel
theorem dX5_refuse_13 : decode prog_7_method_10_code 13 = .ok (.putfield 25, 3) := by decide +kernel
theorem dX5_refuse_16 : decode prog_7_method_10_code 16 = .ok (.return_, 1) := by decide +kernel
theorem dX5_isAt_0 : decode prog_7_method_7_code 0 = .ok (.aload_n 0, 1) := by decide +kernel
theorem dX5_isAt_1 : decode prog_7_method_7_code 1 = .ok (.getfield 22, 3) := by decide +kernel
theorem dX5_isAt_4 : decode prog_7_method_7_code 4 = .ok (.aload_n 0, 1) := by decide +kernel
theorem dX5_isAt_5 : decode prog_7_method_7_code 5 = .ok (.getfield 19, 3) := by decide +kernel
theorem dX5_isAt_8 : decode prog_7_method_7_code 8 = .ok (.isub, 1) := by decide +kernel
theorem dX5_isAt_9 : decode prog_7_method_7_code 9 = .ok (.aload_n 1, 1) := by decide +kernel
theorem dX5_isAt_10 : decode prog_7_method_7_code 10 = .ok (.invokevirtual 44, 3) := by decide +kernel
theorem dX5_isAt_13 : decode prog_7_method_7_code 13 = .ok (.if_icmp .ne 7, 3) := by decide +kernel
theorem dX5_isAt_16 : decode prog_7_method_7_code 16 = .ok (.iconst 1, 1) := by decide +kernel
theorem dX5_isAt_17 : decode prog_7_method_7_code 17 = .ok (.goto 4, 3) := by decide +kernel
theorem dX5_isAt_20 : decode prog_7_method_7_code 20 = .ok (.iconst 0, 1) := by decide +kernel
theorem dX5_isAt_21 : decode prog_7_method_7_code 21 = .ok (.istore_n 2, 1) := by decide +kernel
theorem dX5_isAt_22 : decode prog_7_method_7_code 22 = .ok (.iconst 0, 1) := by decide +kernel
theorem dX5_isAt_23 : decode prog_7_method_7_code 23 = .ok (.istore_n 3, 1) := by decide +kernel
theorem dX5_isAt_24 : decode prog_7_method_7_code 24 = .ok (.iload_n 2, 1) := by decide +kernel
theorem dX5_isAt_25 : decode prog_7_method_7_code 25 = .ok (.ifCond .eq 61, 3) := by decide +kernel
theorem dX5_isAt_28 : decode prog_7_method_7_code 28 = .ok (.iload_n 3, 1) := by decide +kernel
theorem dX5_isAt_29 : decode prog_7_method_7_code 29 = .ok (.aload_n 1, 1) := by decide +kernel
theorem dX5_isAt_30 : decode prog_7_method_7_code 30 = .ok (.invokevirtual 44, 3) := by decide +kernel
theorem dX5_isAt_33 : decode prog_7_method_7_code 33 = .ok (.if_icmp .ge 53, 3) := by decide +kernel
theorem dX5_isAt_36 : decode prog_7_method_7_code 36 = .ok (.aload_n 0, 1) := by decide +kernel
theorem dX5_isAt_37 : decode prog_7_method_7_code 37 = .ok (.getfield 19, 3) := by decide +kernel
theorem dX5_isAt_40 : decode prog_7_method_7_code 40 = .ok (.iload_n 3, 1) := by decide +kernel
theorem dX5_isAt_41 : decode prog_7_method_7_code 41 = .ok (.iadd, 1) := by decide +kernel
theorem dX5_isAt_42 : decode prog_7_method_7_code 42 = .ok (.istore 4, 2) := by decide +kernel
theorem dX5_isAt_44 : decode prog_7_method_7_code 44 = .ok (.iload 4, 2) := by decide +kernel
theorem dX5_isAt_46 : decode prog_7_method_7_code 46 = .ok (.ifCond .lt 32, 3) := by decide +kernel
theorem dX5_isAt_49 : decode prog_7_method_7_code 49 = .ok (.iload 4, 2) := by decide +kernel
theorem dX5_isAt_51 : decode prog_7_method_7_code 51 = .ok (.aload_n 0, 1) := by decide +kernel
theorem dX5_isAt_52 : decode prog_7_method_7_code 52 = .ok (.getfield 9, 3) := by decide +kernel
theorem dX5_isAt_55 : decode prog_7_method_7_code 55 = .ok (.arraylength, 1) := by decide +kernel
theorem dX5_isAt_56 : decode prog_7_method_7_code 56 = .ok (.if_icmp .ge 22, 3) := by decide +kernel
theorem dX5_isAt_59 : decode prog_7_method_7_code 59 = .ok (.aload_n 0, 1) := by decide +kernel
theorem dX5_isAt_60 : decode prog_7_method_7_code 60 = .ok (.getfield 9, 3) := by decide +kernel
theorem dX5_isAt_63 : decode prog_7_method_7_code 63 = .ok (.iload 4, 2) := by decide +kernel
theorem dX5_isAt_65 : decode prog_7_method_7_code 65 = .ok (.iaload, 1) := by decide +kernel
theorem dX5_isAt_66 : decode prog_7_method_7_code 66 = .ok (.aload_n 1, 1) := by decide +kernel
theorem dX5_isAt_67 : decode prog_7_method_7_code 67 = .ok (.iload_n 3, 1) := by decide +kernel
theorem dX5_isAt_68 : decode prog_7_method_7_code 68 = .ok (.invokevirtual 49, 3) := by decide +kernel
theorem dX5_isAt_71 : decode prog_7_method_7_code 71 = .ok (.if_icmp .ne 7, 3) := by decide +kernel
theorem dX5_isAt_74 : decode prog_7_method_7_code 74 = .ok (.iconst 1, 1) := by decide +kernel
theorem dX5_isAt_75 : decode prog_7_method_7_code 75 = .ok (.goto 4, 3) := by decide +kernel
theorem dX5_isAt_78 : decode prog_7_method_7_code 78 = .ok (.iconst 0, 1) := by decide +kernel
theorem dX5_isAt_79 : decode prog_7_method_7_code 79 = .ok (.istore_n 2, 1) := by decide +kernel
theorem dX5_isAt_80 : decode prog_7_method_7_code 80 = .ok (.iinc 3 1, 3) := by decide +kernel
theorem dX5_isAt_83 : decode prog_7_method_7_code 83 = .ok (.goto (-59), 3) := by decide +kernel
theorem dX5_isAt_86 : decode prog_7_method_7_code 86 = .ok (.iload_n 2, 1) := by decide +kernel
theorem dX5_isAt_87 : decode prog_7_method_7_code 87 = .ok (.ireturn, 1) := by decide +kernel
theorem dX5_needs_0 : decode prog_7_method_9_code 0 = .ok (.aload_n 0, 1) := by decide +kernel
theorem dX5_needs_1 : decode prog_7_method_9_code 1 = .ok (.aload_n 1, 1) := by decide +kernel
theorem dX5_needs_2 : decode prog_7_method_9_code 2 = .ok (.invokevirtual 57, 3) := by decide +kernel
theorem dX5_needs_5 : decode prog_7_method_9_code 5 = .ok (.ifCond .ne 7, 3) := by decide +kernel
theorem dX5_needs_8 : decode prog_7_method_9_code 8 = .ok (.aload_n 0, 1) := by decide +kernel
theorem dX5_needs_9 : decode prog_7_method_9_code 9 = .ok (.invokevirtual 60, 3) := by decide +kernel
theorem dX5_needs_12 : decode prog_7_method_9_code 12 = .ok (.return_, 1) := by decide +kernel
theorem dX5_takes_0 : decode prog_7_method_8_code 0 = .ok (.aload_n 0, 1) := by decide +kernel
theorem dX5_takes_1 : decode prog_7_method_8_code 1 = .ok (.aload_n 1, 1) := by decide +kernel
theorem dX5_takes_2 : decode prog_7_method_8_code 2 = .ok (.invokevirtual 53, 3) := by decide +kernel
theorem dX5_takes_5 : decode prog_7_method_8_code 5 = .ok (.ifCond .ne 5, 3) := by decide +kernel
theorem dX5_takes_8 : decode prog_7_method_8_code 8 = .ok (.iconst 0, 1) := by decide +kernel
theorem dX5_takes_9 : decode prog_7_method_8_code 9 = .ok (.ireturn, 1) := by decide +kernel
theorem dX5_takes_10 : decode prog_7_method_8_code 10 = .ok (.aload_n 0, 1) := by decide +kernel
theorem dX5_takes_11 : decode prog_7_method_8_code 11 = .ok (.invokevirtual 38, 3) := by decide +kernel
theorem dX5_takes_14 : decode prog_7_method_8_code 14 = .ok (.iconst 1, 1) := by decide +kernel
theorem dX5_takes_15 : decode prog_7_method_8_code 15 = .ok (.ireturn, 1) := by decide +kernel
theorem dX5_number_0 : decode prog_7_method_11_code 0 = .ok (.aload_n 0, 1) := by decide +kernel
theorem dX5_number_1 : decode prog_7_method_11_code 1 = .ok (.invokevirtual 63, 3) := by decide +kernel
theorem dX5_number_4 : decode prog_7_method_11_code 4 = .ok (.ifCond .eq 20, 3) := by decide +kernel
theorem dX5_number_7 : decode prog_7_method_11_code 7 = .ok (.aload_n 0, 1) := by decide +kernel
theorem dX5_number_8 : decode prog_7_method_11_code 8 = .ok (.getfield 22, 3) := by decide +kernel
theorem dX5_number_11 : decode prog_7_method_11_code 11 = .ok (.aload_n 0, 1) := by decide +kernel
theorem dX5_number_12 : decode prog_7_method_11_code 12 = .ok (.getfield 19, 3) := by decide +kernel
theorem dX5_number_15 : decode prog_7_method_11_code 15 = .ok (.isub, 1) := by decide +kernel
theorem dX5_number_16 : decode prog_7_method_11_code 16 = .ok (.iconst 3, 1) := by decide +kernel
theorem dX5_number_17 : decode prog_7_method_11_code 17 = .ok (.if_icmp .gt 7, 3) := by decide +kernel
theorem dX5_number_20 : decode prog_7_method_11_code 20 = .ok (.iconst 1, 1) := by decide +kernel
theorem dX5_number_21 : decode prog_7_method_11_code 21 = .ok (.goto 4, 3) := by decide +kernel
theorem dX5_number_24 : decode prog_7_method_11_code 24 = .ok (.iconst 0, 1) := by decide +kernel
theorem dX5_number_25 : decode prog_7_method_11_code 25 = .ok (.istore_n 3, 1) := by decide +kernel
theorem dX5_number_26 : decode prog_7_method_11_code 26 = .ok (.iconst 0, 1) := by decide +kernel
theorem dX5_number_27 : decode prog_7_method_11_code 27 = .ok (.istore 4, 2) := by decide +kernel
theorem dX5_number_29 : decode prog_7_method_11_code 29 = .ok (.aload_n 0, 1) := by decide +kernel
theorem dX5_number_30 : decode prog_7_method_11_code 30 = .ok (.getfield 19, 3) := by decide +kernel
theorem dX5_number_33 : decode prog_7_method_11_code 33 = .ok (.istore 5, 2) := by decide +kernel
theorem dX5_number_35 : decode prog_7_method_11_code 35 = .ok (.iload_n 3, 1) := by decide +kernel
theorem dX5_number_36 : decode prog_7_method_11_code 36 = .ok (.ifCond .eq 51, 3) := by decide +kernel
theorem dX5_number_39 : decode prog_7_method_11_code 39 = .ok (.iload 5, 2) := by decide +kernel
theorem dX5_number_41 : decode prog_7_method_11_code 41 = .ok (.ifCond .lt 46, 3) := by decide +kernel
theorem dX5_number_44 : decode prog_7_method_11_code 44 = .ok (.iload 5, 2) := by decide +kernel
theorem dX5_number_46 : decode prog_7_method_11_code 46 = .ok (.aload_n 0, 1) := by decide +kernel
theorem dX5_number_47 : decode prog_7_method_11_code 47 = .ok (.getfield 22, 3) := by decide +kernel
theorem dX5_number_50 : decode prog_7_method_11_code 50 = .ok (.if_icmp .ge 37, 3) := by decide +kernel
theorem dX5_number_53 : decode prog_7_method_11_code 53 = .ok (.iload 5, 2) := by decide +kernel
theorem dX5_number_55 : decode prog_7_method_11_code 55 = .ok (.aload_n 0, 1) := by decide +kernel
theorem dX5_number_56 : decode prog_7_method_11_code 56 = .ok (.getfield 9, 3) := by decide +kernel
theorem dX5_number_59 : decode prog_7_method_11_code 59 = .ok (.arraylength, 1) := by decide +kernel
theorem dX5_number_60 : decode prog_7_method_11_code 60 = .ok (.if_icmp .ge 27, 3) := by decide +kernel
theorem dX5_number_63 : decode prog_7_method_11_code 63 = .ok (.iload 4, 2) := by decide +kernel
theorem dX5_number_65 : decode prog_7_method_11_code 65 = .ok (.bipush 10, 2) := by decide +kernel
theorem dX5_number_67 : decode prog_7_method_11_code 67 = .ok (.imul, 1) := by decide +kernel
theorem dX5_number_68 : decode prog_7_method_11_code 68 = .ok (.aload_n 0, 1) := by decide +kernel
theorem dX5_number_69 : decode prog_7_method_11_code 69 = .ok (.getfield 9, 3) := by decide +kernel
theorem dX5_number_72 : decode prog_7_method_11_code 72 = .ok (.iload 5, 2) := by decide +kernel
theorem dX5_number_74 : decode prog_7_method_11_code 74 = .ok (.iaload, 1) := by decide +kernel
theorem dX5_number_75 : decode prog_7_method_11_code 75 = .ok (.iadd, 1) := by decide +kernel
theorem dX5_number_76 : decode prog_7_method_11_code 76 = .ok (.bipush 48, 2) := by decide +kernel
theorem dX5_number_78 : decode prog_7_method_11_code 78 = .ok (.isub, 1) := by decide +kernel
theorem dX5_number_79 : decode prog_7_method_11_code 79 = .ok (.istore 4, 2) := by decide +kernel
theorem dX5_number_81 : decode prog_7_method_11_code 81 = .ok (.iinc 5 1, 3) := by decide +kernel
theorem dX5_number_84 : decode prog_7_method_11_code 84 = .ok (.goto (-49), 3) := by decide +kernel
theorem dX5_number_87 : decode prog_7_method_11_code 87 = .ok (.iload_n 3, 1) := by decide +kernel
theorem dX5_number_88 : decode prog_7_method_11_code 88 = .ok (.ifCond .eq 15, 3) := by decide +kernel
theorem dX5_number_91 : decode prog_7_method_11_code 91 = .ok (.iload 4, 2) := by decide +kernel
theorem dX5_number_93 : decode prog_7_method_11_code 93 = .ok (.iload_n 1, 1) := by decide +kernel
theorem dX5_number_94 : decode prog_7_method_11_code 94 = .ok (.if_icmp .lt 9, 3) := by decide +kernel
theorem dX5_number_97 : decode prog_7_method_11_code 97 = .ok (.iload 4, 2) := by decide +kernel
theorem dX5_number_99 : decode prog_7_method_11_code 99 = .ok (.iload_n 2, 1) := by decide +kernel
theorem dX5_number_100 : decode prog_7_method_11_code 100 = .ok (.if_icmp .le 9, 3) := by decide +kernel
theorem dX5_number_103 : decode prog_7_method_11_code 103 = .ok (.aload_n 0, 1) := by decide +kernel
theorem dX5_number_104 : decode prog_7_method_11_code 104 = .ok (.invokevirtual 60, 3) := by decide +kernel
theorem dX5_number_107 : decode prog_7_method_11_code 107 = .ok (.iconst (-1), 1) := by decide +kernel
theorem dX5_number_108 : decode prog_7_method_11_code 108 = .ok (.ireturn, 1) := by decide +kernel
theorem dX5_number_109 : decode prog_7_method_11_code 109 = .ok (.aload_n 0, 1) := by decide +kernel
theorem dX5_number_110 : decode prog_7_method_11_code 110 = .ok (.invokevirtual 38, 3) := by decide +kernel
theorem dX5_number_113 : decode prog_7_method_11_code 113 = .ok (.iload 4, 2) := by decide +kernel
theorem dX5_number_115 : decode prog_7_method_11_code 115 = .ok (.ireturn, 1) := by decide +kernel
theorem dX5_isNumber_0 : decode prog_7_method_6_code 0 = .ok (.aload_n 0, 1) := by decide +kernel
theorem dX5_isNumber_1 : decode prog_7_method_6_code 1 = .ok (.getfield 19, 3) := by decide +kernel
theorem dX5_isNumber_4 : decode prog_7_method_6_code 4 = .ok (.ifCond .lt 58, 3) := by decide +kernel
theorem dX5_isNumber_7 : decode prog_7_method_6_code 7 = .ok (.aload_n 0, 1) := by decide +kernel
theorem dX5_isNumber_8 : decode prog_7_method_6_code 8 = .ok (.getfield 19, 3) := by decide +kernel
theorem dX5_isNumber_11 : decode prog_7_method_6_code 11 = .ok (.aload_n 0, 1) := by decide +kernel
theorem dX5_isNumber_12 : decode prog_7_method_6_code 12 = .ok (.getfield 22, 3) := by decide +kernel
theorem dX5_isNumber_15 : decode prog_7_method_6_code 15 = .ok (.if_icmp .ge 47, 3) := by decide +kernel
theorem dX5_isNumber_18 : decode prog_7_method_6_code 18 = .ok (.aload_n 0, 1) := by decide +kernel
theorem dX5_isNumber_19 : decode prog_7_method_6_code 19 = .ok (.getfield 19, 3) := by decide +kernel
theorem dX5_isNumber_22 : decode prog_7_method_6_code 22 = .ok (.aload_n 0, 1) := by decide +kernel
theorem dX5_isNumber_23 : decode prog_7_method_6_code 23 = .ok (.getfield 9, 3) := by decide +kernel
theorem dX5_isNumber_26 : decode prog_7_method_6_code 26 = .ok (.arraylength, 1) := by decide +kernel
theorem dX5_isNumber_27 : decode prog_7_method_6_code 27 = .ok (.if_icmp .ge 35, 3) := by decide +kernel
theorem dX5_isNumber_30 : decode prog_7_method_6_code 30 = .ok (.aload_n 0, 1) := by decide +kernel
theorem dX5_isNumber_31 : decode prog_7_method_6_code 31 = .ok (.getfield 9, 3) := by decide +kernel
theorem dX5_isNumber_34 : decode prog_7_method_6_code 34 = .ok (.aload_n 0, 1) := by decide +kernel
theorem dX5_isNumber_35 : decode prog_7_method_6_code 35 = .ok (.getfield 19, 3) := by decide +kernel
theorem dX5_isNumber_38 : decode prog_7_method_6_code 38 = .ok (.iaload, 1) := by decide +kernel
theorem dX5_isNumber_39 : decode prog_7_method_6_code 39 = .ok (.bipush 48, 2) := by decide +kernel
theorem dX5_isNumber_41 : decode prog_7_method_6_code 41 = .ok (.if_icmp .lt 21, 3) := by decide +kernel
theorem dX5_isNumber_44 : decode prog_7_method_6_code 44 = .ok (.aload_n 0, 1) := by decide +kernel
theorem dX5_isNumber_45 : decode prog_7_method_6_code 45 = .ok (.getfield 9, 3) := by decide +kernel
theorem dX5_isNumber_48 : decode prog_7_method_6_code 48 = .ok (.aload_n 0, 1) := by decide +kernel
theorem dX5_isNumber_49 : decode prog_7_method_6_code 49 = .ok (.getfield 19, 3) := by decide +kernel
theorem dX5_isNumber_52 : decode prog_7_method_6_code 52 = .ok (.iaload, 1) := by decide +kernel
theorem dX5_isNumber_53 : decode prog_7_method_6_code 53 = .ok (.bipush 57, 2) := by decide +kernel
theorem dX5_isNumber_55 : decode prog_7_method_6_code 55 = .ok (.if_icmp .gt 7, 3) := by decide +kernel
theorem dX5_isNumber_58 : decode prog_7_method_6_code 58 = .ok (.iconst 1, 1) := by decide +kernel
theorem dX5_isNumber_59 : decode prog_7_method_6_code 59 = .ok (.goto 4, 3) := by decide +kernel
theorem dX5_isNumber_62 : decode prog_7_method_6_code 62 = .ok (.iconst 0, 1) := by decide +kernel
theorem dX5_isNumber_63 : decode prog_7_method_6_code 63 = .ok (.ireturn, 1) := by decide +kernel
theorem dX1_addItem_0 : decode prog_3_method_3_code 0 = .ok (.aload_n 0, 1) := by decide +kernel
theorem dX1_addItem_1 : decode prog_3_method_3_code 1 = .ok (.getfield 21, 3) := by decide +kernel
theorem dX1_addItem_4 : decode prog_3_method_3_code 4 = .ok (.aload_n 0, 1) := by decide +kernel
theorem dX1_addItem_5 : decode prog_3_method_3_code 5 = .ok (.getfield 52, 3) := by decide +kernel
theorem dX1_addItem_8 : decode prog_3_method_3_code 8 = .ok (.iload_n 1, 1) := by decide +kernel
theorem dX1_addItem_9 : decode prog_3_method_3_code 9 = .ok (.invokestatic 79, 3) := by decide +kernel
theorem dX1_addItem_12 : decode prog_3_method_3_code 12 = .ok (.aload_n 0, 1) := by decide +kernel
theorem dX1_addItem_13 : decode prog_3_method_3_code 13 = .ok (.getfield 9, 3) := by decide +kernel
theorem dX1_addItem_16 : decode prog_3_method_3_code 16 = .ok (.aload_n 0, 1) := by decide +kernel
theorem dX1_addItem_17 : decode prog_3_method_3_code 17 = .ok (.getfield 52, 3) := by decide +kernel
theorem dX1_addItem_20 : decode prog_3_method_3_code 20 = .ok (.iload_n 2, 1) := by decide +kernel
theorem dX1_addItem_21 : decode prog_3_method_3_code 21 = .ok (.invokestatic 79, 3) := by decide +kernel
theorem dX1_addItem_24 : decode prog_3_method_3_code 24 = .ok (.aload_n 0, 1) := by decide +kernel
theorem dX1_addItem_25 : decode prog_3_method_3_code 25 = .ok (.getfield 24, 3) := by decide +kernel
theorem dX1_addItem_28 : decode prog_3_method_3_code 28 = .ok (.aload_n 0, 1) := by decide +kernel
theorem dX1_addItem_29 : decode prog_3_method_3_code 29 = .ok (.getfield 52, 3) := by decide +kernel
theorem dX1_addItem_32 : decode prog_3_method_3_code 32 = .ok (.iload_n 3, 1) := by decide +kernel
theorem dX1_addItem_33 : decode prog_3_method_3_code 33 = .ok (.invokestatic 79, 3) := by decide +kernel
theorem dX1_addItem_36 : decode prog_3_method_3_code 36 = .ok (.aload_n 0, 1) := by decide +kernel
theorem dX1_addItem_37 : decode prog_3_method_3_code 37 = .ok (.getfield 15, 3) := by decide +kernel
theorem dX1_addItem_40 : decode prog_3_method_3_code 40 = .ok (.aload_n 0, 1) := by decide +kernel
theorem dX1_addItem_41 : decode prog_3_method_3_code 41 = .ok (.getfield 52, 3) := by decide +kernel
theorem dX1_addItem_44 : decode prog_3_method_3_code 44 = .ok (.iload 4, 2) := by decide +kernel
theorem dX1_addItem_46 : decode prog_3_method_3_code 46 = .ok (.invokestatic 79, 3) := by decide +kernel
theorem dX1_addItem_49 : decode prog_3_method_3_code 49 = .ok (.aload_n 0, 1) := by decide +kernel
theorem dX1_addItem_50 : decode prog_3_method_3_code 50 = .ok (.getfield 18, 3) := by decide +kernel
theorem dX1_addItem_53 : decode prog_3_method_3_code 53 = .ok (.aload_n 0, 1) := by decide +kernel
theorem dX1_addItem_54 : decode prog_3_method_3_code 54 = .ok (.getfield 52, 3) := by decide +kernel
theorem dX1_addItem_57 : decode prog_3_method_3_code 57 = .ok (.iconst 0, 1) := by decide +kernel
theorem dX1_addItem_58 : decode prog_3_method_3_code 58 = .ok (.invokestatic 79, 3) := by decide +kernel
theorem dX1_addItem_61 : decode prog_3_method_3_code 61 = .ok (.aload_n 0, 1) := by decide +kernel
theorem dX1_addItem_62 : decode prog_3_method_3_code 62 = .ok (.getfield 27, 3) := by decide +kernel
theorem dX1_addItem_65 : decode prog_3_method_3_code 65 = .ok (.aload_n 0, 1) := by decide +kernel
theorem dX1_addItem_66 : decode prog_3_method_3_code 66 = .ok (.getfield 52, 3) := by decide +kernel
theorem dX1_addItem_69 : decode prog_3_method_3_code 69 = .ok (.iload 4, 2) := by decide +kernel
theorem dX1_addItem_71 : decode prog_3_method_3_code 71 = .ok (.invokestatic 79, 3) := by decide +kernel
theorem dX1_addItem_74 : decode prog_3_method_3_code 74 = .ok (.aload_n 0, 1) := by decide +kernel
theorem dX1_addItem_75 : decode prog_3_method_3_code 75 = .ok (.getfield 30, 3) := by decide +kernel
theorem dX1_addItem_78 : decode prog_3_method_3_code 78 = .ok (.aload_n 0, 1) := by decide +kernel
theorem dX1_addItem_79 : decode prog_3_method_3_code 79 = .ok (.getfield 52, 3) := by decide +kernel
theorem dX1_addItem_82 : decode prog_3_method_3_code 82 = .ok (.iconst 0, 1) := by decide +kernel
theorem dX1_addItem_83 : decode prog_3_method_3_code 83 = .ok (.invokestatic 79, 3) := by decide +kernel
theorem dX1_addItem_86 : decode prog_3_method_3_code 86 = .ok (.aload_n 0, 1) := by decide +kernel
theorem dX1_addItem_87 : decode prog_3_method_3_code 87 = .ok (.dup, 1) := by decide +kernel
theorem dX1_addItem_88 : decode prog_3_method_3_code 88 = .ok (.getfield 52, 3) := by decide +kernel
theorem dX1_addItem_91 : decode prog_3_method_3_code 91 = .ok (.iconst 1, 1) := by decide +kernel
theorem dX1_addItem_92 : decode prog_3_method_3_code 92 = .ok (.iadd, 1) := by decide +kernel
theorem dX1_addItem_93 : decode prog_3_method_3_code 93 = .ok (.putfield 52, 3) := by decide +kernel
theorem dX1_addItem_96 : decode prog_3_method_3_code 96 = .ok (.return_, 1) := by decide +kernel
theorem dX5_isRight_0 : decode prog_7_method_4_code 0 = .ok (.aload_n 0, 1) := by decide +kernel
theorem dX5_isRight_1 : decode prog_7_method_4_code 1 = .ok (.getfield 25, 3) := by decide +kernel
theorem dX5_isRight_4 : decode prog_7_method_4_code 4 = .ok (.iconst (-1), 1) := by decide +kernel
theorem dX5_isRight_5 : decode prog_7_method_4_code 5 = .ok (.if_icmp .ne 7, 3) := by decide +kernel
theorem dX5_isRight_8 : decode prog_7_method_4_code 8 = .ok (.iconst 1, 1) := by decide +kernel
theorem dX5_isRight_9 : decode prog_7_method_4_code 9 = .ok (.goto 4, 3) := by decide +kernel
theorem dX5_isRight_12 : decode prog_7_method_4_code 12 = .ok (.iconst 0, 1) := by decide +kernel
theorem dX5_isRight_13 : decode prog_7_method_4_code 13 = .ok (.ireturn, 1) := by decide +kernel
theorem dX1_needsOf_0 : decode prog_3_method_10_code 0 = .ok (.aload_n 0, 1) := by decide +kernel
theorem dX1_needsOf_1 : decode prog_3_method_10_code 1 = .ok (.invokevirtual 106, 3) := by decide +kernel
theorem dX1_needsOf_4 : decode prog_3_method_10_code 4 = .ok (.istore_n 2, 1) := by decide +kernel
theorem dX1_needsOf_5 : decode prog_3_method_10_code 5 = .ok (.iload_n 2, 1) := by decide +kernel
theorem dX1_needsOf_6 : decode prog_3_method_10_code 6 = .ok (.ifCond .ne 5, 3) := by decide +kernel
theorem dX1_needsOf_9 : decode prog_3_method_10_code 9 = .ok (.iconst 0, 1) := by decide +kernel
theorem dX1_needsOf_10 : decode prog_3_method_10_code 10 = .ok (.ireturn, 1) := by decide +kernel
theorem dX1_needsOf_11 : decode prog_3_method_10_code 11 = .ok (.aload_n 0, 1) := by decide +kernel
theorem dX1_needsOf_12 : decode prog_3_method_10_code 12 = .ok (.getfield 39, 3) := by decide +kernel
theorem dX1_needsOf_15 : decode prog_3_method_10_code 15 = .ok (.iload_n 1, 1) := by decide +kernel
theorem dX1_needsOf_16 : decode prog_3_method_10_code 16 = .ok (.invokestatic 83, 3) := by decide +kernel
theorem dX1_needsOf_19 : decode prog_3_method_10_code 19 = .ok (.istore_n 3, 1) := by decide +kernel
theorem dX1_needsOf_20 : decode prog_3_method_10_code 20 = .ok (.iload_n 3, 1) := by decide +kernel
theorem dX1_needsOf_21 : decode prog_3_method_10_code 21 = .ok (.ifCond .le 11, 3) := by decide +kernel
theorem dX1_needsOf_24 : decode prog_3_method_10_code 24 = .ok (.iload_n 2, 1) := by decide +kernel
theorem dX1_needsOf_25 : decode prog_3_method_10_code 25 = .ok (.iload_n 3, 1) := by decide +kernel
theorem dX1_needsOf_26 : decode prog_3_method_10_code 26 = .ok (.invokestatic 100, 3) := by decide +kernel
theorem dX1_needsOf_29 : decode prog_3_method_10_code 29 = .ok (.goto 4, 3) := by decide +kernel
theorem dX1_needsOf_32 : decode prog_3_method_10_code 32 = .ok (.iconst (-1), 1) := by decide +kernel
theorem dX1_needsOf_33 : decode prog_3_method_10_code 33 = .ok (.ireturn, 1) := by decide +kernel
theorem dX1_latestOf_0 : decode prog_3_method_11_code 0 = .ok (.aload_n 0, 1) := by decide +kernel
theorem dX1_latestOf_1 : decode prog_3_method_11_code 1 = .ok (.iload_n 1, 1) := by decide +kernel
theorem dX1_latestOf_2 : decode prog_3_method_11_code 2 = .ok (.invokevirtual 110, 3) := by decide +kernel
theorem dX1_latestOf_5 : decode prog_3_method_11_code 5 = .ok (.istore_n 2, 1) := by decide +kernel
theorem dX1_latestOf_6 : decode prog_3_method_11_code 6 = .ok (.aload_n 0, 1) := by decide +kernel
theorem dX1_latestOf_7 : decode prog_3_method_11_code 7 = .ok (.invokevirtual 113, 3) := by decide +kernel
theorem dX1_latestOf_10 : decode prog_3_method_11_code 10 = .ok (.istore_n 3, 1) := by decide +kernel
theorem dX1_latestOf_11 : decode prog_3_method_11_code 11 = .ok (.iload_n 2, 1) := by decide +kernel
theorem dX1_latestOf_12 : decode prog_3_method_11_code 12 = .ok (.iconst (-1), 1) := by decide +kernel
theorem dX1_latestOf_13 : decode prog_3_method_11_code 13 = .ok (.if_icmp .eq 8, 3) := by decide +kernel
theorem dX1_latestOf_16 : decode prog_3_method_11_code 16 = .ok (.iload_n 2, 1) := by decide +kernel
theorem dX1_latestOf_17 : decode prog_3_method_11_code 17 = .ok (.iload_n 3, 1) := by decide +kernel
theorem dX1_latestOf_18 : decode prog_3_method_11_code 18 = .ok (.if_icmp .le 7, 3) := by decide +kernel
theorem dX1_latestOf_21 : decode prog_3_method_11_code 21 = .ok (.iconst (-1), 1) := by decide +kernel
theorem dX1_latestOf_22 : decode prog_3_method_11_code 22 = .ok (.goto 6, 3) := by decide +kernel
theorem dX1_latestOf_25 : decode prog_3_method_11_code 25 = .ok (.iload_n 3, 1) := by decide +kernel
theorem dX1_latestOf_26 : decode prog_3_method_11_code 26 = .ok (.iload_n 2, 1) := by decide +kernel
theorem dX1_latestOf_27 : decode prog_3_method_11_code 27 = .ok (.isub, 1) := by decide +kernel
theorem dX1_latestOf_28 : decode prog_3_method_11_code 28 = .ok (.ireturn, 1) := by decide +kernel
theorem dX4_cell_0 : decode prog_6_method_4_code 0 = .ok (.aload_n 0, 1) := by decide +kernel
theorem dX4_cell_1 : decode prog_6_method_4_code 1 = .ok (.getfield 15, 3) := by decide +kernel
theorem dX4_cell_4 : decode prog_6_method_4_code 4 = .ok (.iload_n 1, 1) := by decide +kernel
theorem dX4_cell_5 : decode prog_6_method_4_code 5 = .ok (.isub, 1) := by decide +kernel
theorem dX4_cell_6 : decode prog_6_method_4_code 6 = .ok (.bipush 60, 2) := by decide +kernel
theorem dX4_cell_8 : decode prog_6_method_4_code 8 = .ok (.invokestatic 36, 3) := by decide +kernel
theorem dX4_cell_11 : decode prog_6_method_4_code 11 = .ok (.istore_n 3, 1) := by decide +kernel
theorem dX4_cell_12 : decode prog_6_method_4_code 12 = .ok (.aload_n 0, 1) := by decide +kernel
theorem dX4_cell_13 : decode prog_6_method_4_code 13 = .ok (.getfield 9, 3) := by decide +kernel
theorem dX4_cell_16 : decode prog_6_method_4_code 16 = .ok (.iload_n 3, 1) := by decide +kernel
theorem dX4_cell_17 : decode prog_6_method_4_code 17 = .ok (.iconst 4, 1) := by decide +kernel
theorem dX4_cell_18 : decode prog_6_method_4_code 18 = .ok (.imul, 1) := by decide +kernel
theorem dX4_cell_19 : decode prog_6_method_4_code 19 = .ok (.iload_n 2, 1) := by decide +kernel
theorem dX4_cell_20 : decode prog_6_method_4_code 20 = .ok (.iadd, 1) := by decide +kernel
theorem dX4_cell_21 : decode prog_6_method_4_code 21 = .ok (.invokestatic 39, 3) := by decide +kernel
theorem dX4_cell_24 : decode prog_6_method_4_code 24 = .ok (.ireturn, 1) := by decide +kernel
