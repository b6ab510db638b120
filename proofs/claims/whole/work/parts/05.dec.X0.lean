/-! decode rows, by program -/
theorem dX0_init_0 : decode prog_2_method_1_code 0 = .ok (.aload_n 0, 1) := by decide +kernel
theorem dX0_init_1 : decode prog_2_method_1_code 1 = .ok (.invokespecial 3, 3) := by decide +kernel
theorem dX0_init_4 : decode prog_2_method_1_code 4 = .ok (.aload_n 0, 1) := by decide +kernel
theorem dX0_init_5 : decode prog_2_method_1_code 5 = .ok (.new 9, 3) := by decide +kernel
theorem dX0_init_8 : decode prog_2_method_1_code 8 = .ok (.dup, 1) := by decide +kernel
theorem dX0_init_9 : decode prog_2_method_1_code 9 = .ok (.invokespecial 11, 3) := by decide +kernel
theorem dX0_init_12 : decode prog_2_method_1_code 12 = .ok (.putfield 12, 3) := by decide +kernel
theorem dX0_init_15 : decode prog_2_method_1_code 15 = .ok (.return_, 1) := by decide +kernel
theorem dX3_init_0 : decode prog_5_method_1_code 0 = .ok (.aload_n 0, 1) := by decide +kernel
theorem dX3_init_1 : decode prog_5_method_1_code 1 = .ok (.invokespecial 3, 3) := by decide +kernel
theorem dX3_init_4 : decode prog_5_method_1_code 4 = .ok (.aload_n 0, 1) := by decide +kernel
theorem dX3_init_5 : decode prog_5_method_1_code 5 = .ok (.new 9, 3) := by decide +kernel
theorem dX3_init_8 : decode prog_5_method_1_code 8 = .ok (.dup, 1) := by decide +kernel
theorem dX3_init_9 : decode prog_5_method_1_code 9 = .ok (.invokespecial 11, 3) := by decide +kernel
theorem dX3_init_12 : decode prog_5_method_1_code 12 = .ok (.putfield 12, 3) := by decide +kernel
theorem dX3_init_15 : decode prog_5_method_1_code 15 = .ok (.aload_n 0, 1) := by decide +kernel
theorem dX3_init_16 : decode prog_5_method_1_code 16 = .ok (.bipush 32, 2) := by decide +kernel
theorem dX3_init_18 : decode prog_5_method_1_code 18 = .ok (.newarray .int, 2) := by decide +kernel
theorem dX3_init_20 : decode prog_5_method_1_code 20 = .ok (.putfield 18, 3) := by decide +kernel
theorem dX3_init_23 : decode prog_5_method_1_code 23 = .ok (.aload_n 0, 1) := by decide +kernel
theorem dX3_init_24 : decode prog_5_method_1_code 24 = .ok (.iconst 0, 1) := by decide +kernel
theorem dX3_init_25 : decode prog_5_method_1_code 25 = .ok (.putfield 22, 3) := by decide +kernel
theorem dX3_init_28 : decode prog_5_method_1_code 28 = .ok (.aload_n 0, 1) := by decide +kernel
theorem dX3_init_29 : decode prog_5_method_1_code 29 = .ok (.iconst 0, 1) := by decide +kernel
theorem dX3_init_30 : decode prog_5_method_1_code 30 = .ok (.putfield 26, 3) := by decide +kernel
theorem dX3_init_33 : decode prog_5_method_1_code 33 = .ok (.return_, 1) := by decide +kernel
theorem dX2_init_0 : decode prog_4_method_1_code 0 = .ok (.aload_n 0, 1) := by decide +kernel
theorem dX2_init_1 : decode prog_4_method_1_code 1 = .ok (.invokespecial 3, 3) := by decide +kernel
theorem dX2_init_4 : decode prog_4_method_1_code 4 = .ok (.aload_n 0, 1) := by decide +kernel
theorem dX2_init_5 : decode prog_4_method_1_code 5 = .ok (.bipush 12, 2) := by decide +kernel
theorem dX2_init_7 : decode prog_4_method_1_code 7 = .ok (.newarray .int, 2) := by decide +kernel
theorem dX2_init_9 : decode prog_4_method_1_code 9 = .ok (.putfield 9, 3) := by decide +kernel
theorem dX2_init_12 : decode prog_4_method_1_code 12 = .ok (.aload_n 0, 1) := by decide +kernel
theorem dX2_init_13 : decode prog_4_method_1_code 13 = .ok (.bipush 12, 2) := by decide +kernel
theorem dX2_init_15 : decode prog_4_method_1_code 15 = .ok (.newarray .int, 2) := by decide +kernel
theorem dX2_init_17 : decode prog_4_method_1_code 17 = .ok (.putfield 15, 3) := by decide +kernel
theorem dX2_init_20 : decode prog_4_method_1_code 20 = .ok (.aload_n 0, 1) := by decide +kernel
theorem dX2_init_21 : decode prog_4_method_1_code 21 = .ok (.bipush 13, 2) := by decide +kernel
theorem dX2_init_23 : decode prog_4_method_1_code 23 = .ok (.newarray .int, 2) := by decide +kernel
theorem dX2_init_25 : decode prog_4_method_1_code 25 = .ok (.putfield 18, 3) := by decide +kernel
theorem dX2_init_28 : decode prog_4_method_1_code 28 = .ok (.aload_n 0, 1) := by decide +kernel
theorem dX2_init_29 : decode prog_4_method_1_code 29 = .ok (.sipush 400, 3) := by decide +kernel
theorem dX2_init_32 : decode prog_4_method_1_code 32 = .ok (.newarray .int, 2) := by decide +kernel
theorem dX2_init_34 : decode prog_4_method_1_code 34 = .ok (.putfield 21, 3) := by decide +kernel
theorem dX2_init_37 : decode prog_4_method_1_code 37 = .ok (.aload_n 0, 1) := by decide +kernel
theorem dX2_init_38 : decode prog_4_method_1_code 38 = .ok (.iconst 0, 1) := by decide +kernel
theorem dX2_init_39 : decode prog_4_method_1_code 39 = .ok (.putfield 24, 3) := by decide +kernel
theorem dX2_init_42 : decode prog_4_method_1_code 42 = .ok (.aload_n 0, 1) := by decide +kernel
theorem dX2_init_43 : decode prog_4_method_1_code 43 = .ok (.iconst (-1), 1) := by decide +kernel
theorem dX2_init_44 : decode prog_4_method_1_code 44 = .ok (.putfield 28, 3) := by decide +kernel
theorem dX2_init_47 : decode prog_4_method_1_code 47 = .ok (.aload_n 0, 1) := by decide +kernel
theorem dX2_init_48 : decode prog_4_method_1_code 48 = .ok (.iconst 3, 1) := by decide +kernel
theorem dX2_init_49 : decode prog_4_method_1_code 49 = .ok (.newarray .int, 2) := by decide +kernel
theorem dX2_init_51 : decode prog_4_method_1_code 51 = .ok (.putfield 31, 3) := by decide +kernel
theorem dX2_init_54 : decode prog_4_method_1_code 54 = .ok (.return_, 1) := by decide +kernel
theorem dX2_tell_0 : decode prog_4_method_7_code 0 = .ok (.aload_n 0, 1) := by decide +kernel
theorem dX2_tell_1 : decode prog_4_method_7_code 1 = .ok (.getfield 31, 3) := by decide +kernel
theorem dX2_tell_4 : decode prog_4_method_7_code 4 = .ok (.iconst 0, 1) := by decide +kernel
theorem dX2_tell_5 : decode prog_4_method_7_code 5 = .ok (.iconst 0, 1) := by decide +kernel
theorem dX2_tell_6 : decode prog_4_method_7_code 6 = .ok (.invokestatic 38, 3) := by decide +kernel
theorem dX2_tell_9 : decode prog_4_method_7_code 9 = .ok (.aload_n 0, 1) := by decide +kernel
theorem dX2_tell_10 : decode prog_4_method_7_code 10 = .ok (.getfield 31, 3) := by decide +kernel
theorem dX2_tell_13 : decode prog_4_method_7_code 13 = .ok (.iconst 1, 1) := by decide +kernel
theorem dX2_tell_14 : decode prog_4_method_7_code 14 = .ok (.iconst 0, 1) := by decide +kernel
theorem dX2_tell_15 : decode prog_4_method_7_code 15 = .ok (.invokestatic 38, 3) := by decide +kernel
theorem dX2_tell_18 : decode prog_4_method_7_code 18 = .ok (.aload_n 0, 1) := by decide +kernel
theorem dX2_tell_19 : decode prog_4_method_7_code 19 = .ok (.getfield 31, 3) := by decide +kernel
theorem dX2_tell_22 : decode prog_4_method_7_code 22 = .ok (.iconst 2, 1) := by decide +kernel
theorem dX2_tell_23 : decode prog_4_method_7_code 23 = .ok (.iconst 0, 1) := by decide +kernel
theorem dX2_tell_24 : decode prog_4_method_7_code 24 = .ok (.invokestatic 38, 3) := by decide +kernel
theorem dX2_tell_27 : decode prog_4_method_7_code 27 = .ok (.iconst 0, 1) := by decide +kernel
theorem dX2_tell_28 : decode prog_4_method_7_code 28 = .ok (.istore_n 3, 1) := by decide +kernel
theorem dX2_tell_29 : decode prog_4_method_7_code 29 = .ok (.iload_n 3, 1) := by decide +kernel
theorem dX2_tell_30 : decode prog_4_method_7_code 30 = .ok (.aload_n 0, 1) := by decide +kernel
theorem dX2_tell_31 : decode prog_4_method_7_code 31 = .ok (.getfield 28, 3) := by decide +kernel
theorem dX2_tell_34 : decode prog_4_method_7_code 34 = .ok (.if_icmp .ge 73, 3) := by decide +kernel
theorem dX2_tell_37 : decode prog_4_method_7_code 37 = .ok (.aload_n 0, 1) := by decide +kernel
theorem dX2_tell_38 : decode prog_4_method_7_code 38 = .ok (.aload_n 1, 1) := by decide +kernel
theorem dX2_tell_39 : decode prog_4_method_7_code 39 = .ok (.iload_n 2, 1) := by decide +kernel
theorem dX2_tell_40 : decode prog_4_method_7_code 40 = .ok (.aload_n 0, 1) := by decide +kernel
theorem dX2_tell_41 : decode prog_4_method_7_code 41 = .ok (.getfield 18, 3) := by decide +kernel
theorem dX2_tell_44 : decode prog_4_method_7_code 44 = .ok (.iload_n 3, 1) := by decide +kernel
theorem dX2_tell_45 : decode prog_4_method_7_code 45 = .ok (.invokestatic 42, 3) := by decide +kernel
theorem dX2_tell_48 : decode prog_4_method_7_code 48 = .ok (.aload_n 0, 1) := by decide +kernel
theorem dX2_tell_49 : decode prog_4_method_7_code 49 = .ok (.getfield 18, 3) := by decide +kernel
theorem dX2_tell_52 : decode prog_4_method_7_code 52 = .ok (.iload_n 3, 1) := by decide +kernel
theorem dX2_tell_53 : decode prog_4_method_7_code 53 = .ok (.iconst 1, 1) := by decide +kernel
theorem dX2_tell_54 : decode prog_4_method_7_code 54 = .ok (.iadd, 1) := by decide +kernel
theorem dX2_tell_55 : decode prog_4_method_7_code 55 = .ok (.invokestatic 42, 3) := by decide +kernel
theorem dX2_tell_58 : decode prog_4_method_7_code 58 = .ok (.invokevirtual 46, 3) := by decide +kernel
theorem dX2_tell_61 : decode prog_4_method_7_code 61 = .ok (.ifCond .eq 40, 3) := by decide +kernel
theorem dX2_tell_64 : decode prog_4_method_7_code 64 = .ok (.aload_n 0, 1) := by decide +kernel
theorem dX2_tell_65 : decode prog_4_method_7_code 65 = .ok (.getfield 9, 3) := by decide +kernel
theorem dX2_tell_68 : decode prog_4_method_7_code 68 = .ok (.iload_n 3, 1) := by decide +kernel
theorem dX2_tell_69 : decode prog_4_method_7_code 69 = .ok (.invokestatic 42, 3) := by decide +kernel
theorem dX2_tell_72 : decode prog_4_method_7_code 72 = .ok (.istore 4, 2) := by decide +kernel
theorem dX2_tell_74 : decode prog_4_method_7_code 74 = .ok (.aload_n 0, 1) := by decide +kernel
theorem dX2_tell_75 : decode prog_4_method_7_code 75 = .ok (.getfield 31, 3) := by decide +kernel
theorem dX2_tell_78 : decode prog_4_method_7_code 78 = .ok (.iload 4, 2) := by decide +kernel
theorem dX2_tell_80 : decode prog_4_method_7_code 80 = .ok (.aload_n 0, 1) := by decide +kernel
theorem dX2_tell_81 : decode prog_4_method_7_code 81 = .ok (.getfield 31, 3) := by decide +kernel
theorem dX2_tell_84 : decode prog_4_method_7_code 84 = .ok (.iload 4, 2) := by decide +kernel
theorem dX2_tell_86 : decode prog_4_method_7_code 86 = .ok (.invokestatic 42, 3) := by decide +kernel
theorem dX2_tell_89 : decode prog_4_method_7_code 89 = .ok (.aload_n 0, 1) := by decide +kernel
theorem dX2_tell_90 : decode prog_4_method_7_code 90 = .ok (.getfield 15, 3) := by decide +kernel
theorem dX2_tell_93 : decode prog_4_method_7_code 93 = .ok (.iload_n 3, 1) := by decide +kernel
theorem dX2_tell_94 : decode prog_4_method_7_code 94 = .ok (.invokestatic 42, 3) := by decide +kernel
theorem dX2_tell_97 : decode prog_4_method_7_code 97 = .ok (.iadd, 1) := by decide +kernel
theorem dX2_tell_98 : decode prog_4_method_7_code 98 = .ok (.invokestatic 38, 3) := by decide +kernel
theorem dX2_tell_101 : decode prog_4_method_7_code 101 = .ok (.iinc 3 1, 3) := by decide +kernel
theorem dX2_tell_104 : decode prog_4_method_7_code 104 = .ok (.goto (-75), 3) := by decide +kernel
theorem dX2_tell_107 : decode prog_4_method_7_code 107 = .ok (.return_, 1) := by decide +kernel
theorem dX2_holds_0 : decode prog_4_method_8_code 0 = .ok (.lconst 1, 1) := by decide +kernel
theorem dX2_holds_1 : decode prog_4_method_8_code 1 = .ok (.lstore 5, 2) := by decide +kernel
theorem dX2_holds_3 : decode prog_4_method_8_code 3 = .ok (.iconst 0, 1) := by decide +kernel
theorem dX2_holds_4 : decode prog_4_method_8_code 4 = .ok (.istore 7, 2) := by decide +kernel
theorem dX2_holds_6 : decode prog_4_method_8_code 6 = .ok (.iconst 0, 1) := by decide +kernel
theorem dX2_holds_7 : decode prog_4_method_8_code 7 = .ok (.istore 8, 2) := by decide +kernel
theorem dX2_holds_9 : decode prog_4_method_8_code 9 = .ok (.iload_n 3, 1) := by decide +kernel
theorem dX2_holds_10 : decode prog_4_method_8_code 10 = .ok (.istore 9, 2) := by decide +kernel
theorem dX2_holds_12 : decode prog_4_method_8_code 12 = .ok (.iload 9, 2) := by decide +kernel
theorem dX2_holds_14 : decode prog_4_method_8_code 14 = .ok (.ifCond .lt 179, 3) := by decide +kernel
theorem dX2_holds_17 : decode prog_4_method_8_code 17 = .ok (.iload 9, 2) := by decide +kernel
theorem dX2_holds_19 : decode prog_4_method_8_code 19 = .ok (.iload 4, 2) := by decide +kernel
theorem dX2_holds_21 : decode prog_4_method_8_code 21 = .ok (.if_icmp .ge 172, 3) := by decide +kernel
theorem dX2_holds_24 : decode prog_4_method_8_code 24 = .ok (.iload 9, 2) := by decide +kernel
theorem dX2_holds_26 : decode prog_4_method_8_code 26 = .ok (.aload_n 0, 1) := by decide +kernel
theorem dX2_holds_27 : decode prog_4_method_8_code 27 = .ok (.getfield 21, 3) := by decide +kernel
theorem dX2_holds_30 : decode prog_4_method_8_code 30 = .ok (.arraylength, 1) := by decide +kernel
theorem dX2_holds_31 : decode prog_4_method_8_code 31 = .ok (.if_icmp .ge 162, 3) := by decide +kernel
theorem dX2_holds_34 : decode prog_4_method_8_code 34 = .ok (.aload_n 0, 1) := by decide +kernel
theorem dX2_holds_35 : decode prog_4_method_8_code 35 = .ok (.getfield 21, 3) := by decide +kernel
theorem dX2_holds_38 : decode prog_4_method_8_code 38 = .ok (.iload 9, 2) := by decide +kernel
theorem dX2_holds_40 : decode prog_4_method_8_code 40 = .ok (.iaload, 1) := by decide +kernel
theorem dX2_holds_41 : decode prog_4_method_8_code 41 = .ok (.istore 10, 2) := by decide +kernel
theorem dX2_holds_43 : decode prog_4_method_8_code 43 = .ok (.iload 10, 2) := by decide +kernel
theorem dX2_holds_45 : decode prog_4_method_8_code 45 = .ok (.bipush (-7), 2) := by decide +kernel
theorem dX2_holds_47 : decode prog_4_method_8_code 47 = .ok (.if_icmp .lt 28, 3) := by decide +kernel
theorem dX2_holds_50 : decode prog_4_method_8_code 50 = .ok (.iload 8, 2) := by decide +kernel
theorem dX2_holds_52 : decode prog_4_method_8_code 52 = .ok (.iload 10, 2) := by decide +kernel
theorem dX2_holds_54 : decode prog_4_method_8_code 54 = .ok (.ifCond .lt 8, 3) := by decide +kernel
theorem dX2_holds_57 : decode prog_4_method_8_code 57 = .ok (.iload 10, 2) := by decide +kernel
theorem dX2_holds_59 : decode prog_4_method_8_code 59 = .ok (.goto 10, 3) := by decide +kernel
theorem dX2_holds_62 : decode prog_4_method_8_code 62 = .ok (.aload_n 1, 1) := by decide +kernel
theorem dX2_holds_63 : decode prog_4_method_8_code 63 = .ok (.iload_n 2, 1) := by decide +kernel
theorem dX2_holds_64 : decode prog_4_method_8_code 64 = .ok (.iload 10, 2) := by decide +kernel
theorem dX2_holds_66 : decode prog_4_method_8_code 66 = .ok (.invokestatic 50, 3) := by decide +kernel
theorem dX2_holds_69 : decode prog_4_method_8_code 69 = .ok (.iadd, 1) := by decide +kernel
theorem dX2_holds_70 : decode prog_4_method_8_code 70 = .ok (.istore 8, 2) := by decide +kernel
theorem dX2_holds_72 : decode prog_4_method_8_code 72 = .ok (.goto 115, 3) := by decide +kernel
theorem dX2_holds_75 : decode prog_4_method_8_code 75 = .ok (.iload 10, 2) := by decide +kernel
theorem dX2_holds_77 : decode prog_4_method_8_code 77 = .ok (.bipush (-10), 2) := by decide +kernel
theorem dX2_holds_79 : decode prog_4_method_8_code 79 = .ok (.if_icmp .ne 13, 3) := by decide +kernel
theorem dX2_holds_82 : decode prog_4_method_8_code 82 = .ok (.iload 8, 2) := by decide +kernel
theorem dX2_holds_84 : decode prog_4_method_8_code 84 = .ok (.istore 7, 2) := by decide +kernel
theorem dX2_holds_86 : decode prog_4_method_8_code 86 = .ok (.iconst 0, 1) := by decide +kernel
theorem dX2_holds_87 : decode prog_4_method_8_code 87 = .ok (.istore 8, 2) := by decide +kernel
theorem dX2_holds_89 : decode prog_4_method_8_code 89 = .ok (.goto 98, 3) := by decide +kernel
theorem dX2_holds_92 : decode prog_4_method_8_code 92 = .ok (.iload 10, 2) := by decide +kernel
theorem dX2_holds_94 : decode prog_4_method_8_code 94 = .ok (.bipush (-12), 2) := by decide +kernel
theorem dX2_holds_96 : decode prog_4_method_8_code 96 = .ok (.if_icmp .lt 37, 3) := by decide +kernel
theorem dX2_holds_99 : decode prog_4_method_8_code 99 = .ok (.lload 5, 2) := by decide +kernel
theorem dX2_holds_101 : decode prog_4_method_8_code 101 = .ok (.iconst 1, 1) := by decide +kernel
theorem dX2_holds_102 : decode prog_4_method_8_code 102 = .ok (.lshl, 1) := by decide +kernel
theorem dX2_holds_103 : decode prog_4_method_8_code 103 = .ok (.aload_n 1, 1) := by decide +kernel
theorem dX2_holds_104 : decode prog_4_method_8_code 104 = .ok (.iload_n 2, 1) := by decide +kernel
theorem dX2_holds_105 : decode prog_4_method_8_code 105 = .ok (.iload 10, 2) := by decide +kernel
theorem dX2_holds_107 : decode prog_4_method_8_code 107 = .ok (.iload 8, 2) := by decide +kernel
theorem dX2_holds_109 : decode prog_4_method_8_code 109 = .ok (.iload 7, 2) := by decide +kernel
theorem dX2_holds_111 : decode prog_4_method_8_code 111 = .ok (.isub, 1) := by decide +kernel
theorem dX2_holds_112 : decode prog_4_method_8_code 112 = .ok (.invokestatic 54, 3) := by decide +kernel
theorem dX2_holds_115 : decode prog_4_method_8_code 115 = .ok (.ifCond .eq 7, 3) := by decide +kernel
theorem dX2_holds_118 : decode prog_4_method_8_code 118 = .ok (.iconst 1, 1) := by decide +kernel
theorem dX2_holds_119 : decode prog_4_method_8_code 119 = .ok (.goto 4, 3) := by decide +kernel
theorem dX2_holds_122 : decode prog_4_method_8_code 122 = .ok (.iconst 0, 1) := by decide +kernel
theorem dX2_holds_123 : decode prog_4_method_8_code 123 = .ok (.i2l, 1) := by decide +kernel
theorem dX2_holds_124 : decode prog_4_method_8_code 124 = .ok (.lor, 1) := by decide +kernel
theorem dX2_holds_125 : decode prog_4_method_8_code 125 = .ok (.lstore 5, 2) := by decide +kernel
theorem dX2_holds_127 : decode prog_4_method_8_code 127 = .ok (.iconst 0, 1) := by decide +kernel
theorem dX2_holds_128 : decode prog_4_method_8_code 128 = .ok (.istore 8, 2) := by decide +kernel
theorem dX2_holds_130 : decode prog_4_method_8_code 130 = .ok (.goto 57, 3) := by decide +kernel
theorem dX2_holds_133 : decode prog_4_method_8_code 133 = .ok (.iload 10, 2) := by decide +kernel
theorem dX2_holds_135 : decode prog_4_method_8_code 135 = .ok (.bipush (-13), 2) := by decide +kernel
theorem dX2_holds_137 : decode prog_4_method_8_code 137 = .ok (.if_icmp .ne 12, 3) := by decide +kernel
theorem dX2_holds_140 : decode prog_4_method_8_code 140 = .ok (.lload 5, 2) := by decide +kernel
theorem dX2_holds_142 : decode prog_4_method_8_code 142 = .ok (.lconst 1, 1) := by decide +kernel
theorem dX2_holds_143 : decode prog_4_method_8_code 143 = .ok (.lxor, 1) := by decide +kernel
theorem dX2_holds_144 : decode prog_4_method_8_code 144 = .ok (.lstore 5, 2) := by decide +kernel
theorem dX2_holds_146 : decode prog_4_method_8_code 146 = .ok (.goto 41, 3) := by decide +kernel
theorem dX2_holds_149 : decode prog_4_method_8_code 149 = .ok (.lload 5, 2) := by decide +kernel
theorem dX2_holds_151 : decode prog_4_method_8_code 151 = .ok (.lconst 1, 1) := by decide +kernel
theorem dX2_holds_152 : decode prog_4_method_8_code 152 = .ok (.land, 1) := by decide +kernel
theorem dX2_holds_153 : decode prog_4_method_8_code 153 = .ok (.lstore 11, 2) := by decide +kernel
theorem dX2_holds_155 : decode prog_4_method_8_code 155 = .ok (.lload 5, 2) := by decide +kernel
theorem dX2_holds_157 : decode prog_4_method_8_code 157 = .ok (.iconst 1, 1) := by decide +kernel
theorem dX2_holds_158 : decode prog_4_method_8_code 158 = .ok (.lushr, 1) := by decide +kernel
theorem dX2_holds_159 : decode prog_4_method_8_code 159 = .ok (.lstore 13, 2) := by decide +kernel
theorem dX2_holds_161 : decode prog_4_method_8_code 161 = .ok (.iload 10, 2) := by decide +kernel
theorem dX2_holds_163 : decode prog_4_method_8_code 163 = .ok (.bipush (-14), 2) := by decide +kernel
theorem dX2_holds_165 : decode prog_4_method_8_code 165 = .ok (.if_icmp .ne 15, 3) := by decide +kernel
theorem dX2_holds_168 : decode prog_4_method_8_code 168 = .ok (.lload 13, 2) := by decide +kernel
theorem dX2_holds_170 : decode prog_4_method_8_code 170 = .ok (.lload 11, 2) := by decide +kernel
theorem dX2_holds_172 : decode prog_4_method_8_code 172 = .ok (.ldc2_w 57, 3) := by decide +kernel
theorem dX2_holds_175 : decode prog_4_method_8_code 175 = .ok (.lor, 1) := by decide +kernel
theorem dX2_holds_176 : decode prog_4_method_8_code 176 = .ok (.land, 1) := by decide +kernel
theorem dX2_holds_177 : decode prog_4_method_8_code 177 = .ok (.goto 8, 3) := by decide +kernel
theorem dX2_holds_180 : decode prog_4_method_8_code 180 = .ok (.lload 13, 2) := by decide +kernel
theorem dX2_holds_182 : decode prog_4_method_8_code 182 = .ok (.lload 11, 2) := by decide +kernel
theorem dX2_holds_184 : decode prog_4_method_8_code 184 = .ok (.lor, 1) := by decide +kernel
theorem dX2_holds_185 : decode prog_4_method_8_code 185 = .ok (.lstore 5, 2) := by decide +kernel
theorem dX2_holds_187 : decode prog_4_method_8_code 187 = .ok (.iinc 9 1, 3) := by decide +kernel
theorem dX2_holds_190 : decode prog_4_method_8_code 190 = .ok (.goto (-178), 3) := by decide +kernel
theorem dX2_holds_193 : decode prog_4_method_8_code 193 = .ok (.lload 5, 2) := by decide +kernel
theorem dX2_holds_195 : decode prog_4_method_8_code 195 = .ok (.lconst 1, 1) := by decide +kernel
theorem dX2_holds_196 : decode prog_4_method_8_code 196 = .ok (.land, 1) := by decide +kernel
theorem dX2_holds_197 : decode prog_4_method_8_code 197 = .ok (.lconst 0, 1) := by decide +kernel
theorem dX2_holds_198 : decode prog_4_method_8_code 198 = .ok (.lcmp, 1) := by decide +kernel
theorem dX2_holds_199 : decode prog_4_method_8_code 199 = .ok (.ifCond .eq 7, 3) := by decide +kernel
theorem dX2_holds_202 : decode prog_4_method_8_code 202 = .ok (.iconst 1, 1) := by decide +kernel
theorem dX2_holds_203 : decode prog_4_method_8_code 203 = .ok (.goto 4, 3) := by decide +kernel
theorem dX2_holds_206 : decode prog_4_method_8_code 206 = .ok (.iconst 0, 1) := by decide +kernel
theorem dX2_holds_207 : decode prog_4_method_8_code 207 = .ok (.ireturn, 1) := by decide +kernel
theorem dX2_part_0 : decode prog_4_method_9_code 0 = .ok (.iload_n 2, 1) := by decide +kernel
theorem dX2_part_1 : decode prog_4_method_9_code 1 = .ok (.tableswitch 82 (-6) (-1) #[73, 68, 59, 50, 41, 39], 39) := by decide +kernel
theorem dX2_part_40 : decode prog_4_method_9_code 40 = .ok (.iload_n 1, 1) := by decide +kernel
theorem dX2_part_41 : decode prog_4_method_9_code 41 = .ok (.ireturn, 1) := by decide +kernel
theorem dX2_part_42 : decode prog_4_method_9_code 42 = .ok (.aload_n 0, 1) := by decide +kernel
theorem dX2_part_43 : decode prog_4_method_9_code 43 = .ok (.getfield 59, 3) := by decide +kernel
theorem dX2_part_46 : decode prog_4_method_9_code 46 = .ok (.iload_n 1, 1) := by decide +kernel
theorem dX2_part_47 : decode prog_4_method_9_code 47 = .ok (.invokestatic 42, 3) := by decide +kernel
theorem dX2_part_50 : decode prog_4_method_9_code 50 = .ok (.ireturn, 1) := by decide +kernel
theorem dX2_part_51 : decode prog_4_method_9_code 51 = .ok (.aload_n 0, 1) := by decide +kernel
theorem dX2_part_52 : decode prog_4_method_9_code 52 = .ok (.getfield 64, 3) := by decide +kernel
theorem dX2_part_55 : decode prog_4_method_9_code 55 = .ok (.iload_n 1, 1) := by decide +kernel
theorem dX2_part_56 : decode prog_4_method_9_code 56 = .ok (.invokestatic 42, 3) := by decide +kernel
theorem dX2_part_59 : decode prog_4_method_9_code 59 = .ok (.ireturn, 1) := by decide +kernel
theorem dX2_part_60 : decode prog_4_method_9_code 60 = .ok (.aload_n 0, 1) := by decide +kernel
theorem dX2_part_61 : decode prog_4_method_9_code 61 = .ok (.getfield 67, 3) := by decide +kernel
theorem dX2_part_64 : decode prog_4_method_9_code 64 = .ok (.iload_n 1, 1) := by decide +kernel
theorem dX2_part_65 : decode prog_4_method_9_code 65 = .ok (.invokestatic 42, 3) := by decide +kernel
theorem dX2_part_68 : decode prog_4_method_9_code 68 = .ok (.ireturn, 1) := by decide +kernel
theorem dX2_part_69 : decode prog_4_method_9_code 69 = .ok (.aload_n 0, 1) := by decide +kernel
theorem dX2_part_70 : decode prog_4_method_9_code 70 = .ok (.invokevirtual 70, 3) := by decide +kernel
theorem dX2_part_73 : decode prog_4_method_9_code 73 = .ok (.ireturn, 1) := by decide +kernel
theorem dX2_part_74 : decode prog_4_method_9_code 74 = .ok (.aload_n 0, 1) := by decide +kernel
theorem dX2_part_75 : decode prog_4_method_9_code 75 = .ok (.getfield 74, 3) := by decide +kernel
theorem dX2_part_78 : decode prog_4_method_9_code 78 = .ok (.sipush 182, 3) := by decide +kernel
theorem dX2_part_81 : decode prog_4_method_9_code 81 = .ok (.irem, 1) := by decide +kernel
theorem dX2_part_82 : decode prog_4_method_9_code 82 = .ok (.ireturn, 1) := by decide +kernel
theorem dX2_part_83 : decode prog_4_method_9_code 83 = .ok (.aload_n 0, 1) := by decide +kernel
theorem dX2_part_84 : decode prog_4_method_9_code 84 = .ok (.getfield 77, 3) := by decide +kernel
theorem dX2_part_87 : decode prog_4_method_9_code 87 = .ok (.aload_n 0, 1) := by decide +kernel
theorem dX2_part_88 : decode prog_4_method_9_code 88 = .ok (.getfield 59, 3) := by decide +kernel
theorem dX2_part_91 : decode prog_4_method_9_code 91 = .ok (.iload_n 1, 1) := by decide +kernel
theorem dX2_part_92 : decode prog_4_method_9_code 92 = .ok (.invokestatic 42, 3) := by decide +kernel
theorem dX2_part_95 : decode prog_4_method_9_code 95 = .ok (.invokestatic 42, 3) := by decide +kernel
theorem dX2_part_98 : decode prog_4_method_9_code 98 = .ok (.ireturn, 1) := by decide +kernel
theorem dX2_atom_0 : decode prog_4_method_10_code 0 = .ok (.iload_n 2, 1) := by decide +kernel
theorem dX2_atom_1 : decode prog_4_method_10_code 1 = .ok (.tableswitch 87 (-11) (-8) #[77, 87, 52, 31], 31) := by decide +kernel
theorem dX2_atom_32 : decode prog_4_method_10_code 32 = .ok (.aload_n 0, 1) := by decide +kernel
theorem dX2_atom_33 : decode prog_4_method_10_code 33 = .ok (.getfield 80, 3) := by decide +kernel
theorem dX2_atom_36 : decode prog_4_method_10_code 36 = .ok (.iload_n 1, 1) := by decide +kernel
theorem dX2_atom_37 : decode prog_4_method_10_code 37 = .ok (.invokestatic 42, 3) := by decide +kernel
theorem dX2_atom_40 : decode prog_4_method_10_code 40 = .ok (.aload_n 0, 1) := by decide +kernel
theorem dX2_atom_41 : decode prog_4_method_10_code 41 = .ok (.invokevirtual 70, 3) := by decide +kernel
theorem dX2_atom_44 : decode prog_4_method_10_code 44 = .ok (.if_icmp .ne 7, 3) := by decide +kernel
theorem dX2_atom_47 : decode prog_4_method_10_code 47 = .ok (.iconst 1, 1) := by decide +kernel
theorem dX2_atom_48 : decode prog_4_method_10_code 48 = .ok (.goto 4, 3) := by decide +kernel
theorem dX2_atom_51 : decode prog_4_method_10_code 51 = .ok (.iconst 0, 1) := by decide +kernel
theorem dX2_atom_52 : decode prog_4_method_10_code 52 = .ok (.ireturn, 1) := by decide +kernel
theorem dX2_atom_53 : decode prog_4_method_10_code 53 = .ok (.aload_n 0, 1) := by decide +kernel
theorem dX2_atom_54 : decode prog_4_method_10_code 54 = .ok (.getfield 59, 3) := by decide +kernel
theorem dX2_atom_57 : decode prog_4_method_10_code 57 = .ok (.iload_n 1, 1) := by decide +kernel
theorem dX2_atom_58 : decode prog_4_method_10_code 58 = .ok (.invokestatic 42, 3) := by decide +kernel
theorem dX2_atom_61 : decode prog_4_method_10_code 61 = .ok (.aload_n 0, 1) := by decide +kernel
theorem dX2_atom_62 : decode prog_4_method_10_code 62 = .ok (.getfield 83, 3) := by decide +kernel
theorem dX2_atom_65 : decode prog_4_method_10_code 65 = .ok (.iload_n 1, 1) := by decide +kernel
theorem dX2_atom_66 : decode prog_4_method_10_code 66 = .ok (.invokestatic 42, 3) := by decide +kernel
theorem dX2_atom_69 : decode prog_4_method_10_code 69 = .ok (.if_icmp .ne 7, 3) := by decide +kernel
theorem dX2_atom_72 : decode prog_4_method_10_code 72 = .ok (.iconst 1, 1) := by decide +kernel
theorem dX2_atom_73 : decode prog_4_method_10_code 73 = .ok (.goto 4, 3) := by decide +kernel
theorem dX2_atom_76 : decode prog_4_method_10_code 76 = .ok (.iconst 0, 1) := by decide +kernel
theorem dX2_atom_77 : decode prog_4_method_10_code 77 = .ok (.ireturn, 1) := by decide +kernel
theorem dX2_atom_78 : decode prog_4_method_10_code 78 = .ok (.iload_n 3, 1) := by decide +kernel
theorem dX2_atom_79 : decode prog_4_method_10_code 79 = .ok (.ifCond .le 7, 3) := by decide +kernel
theorem dX2_atom_82 : decode prog_4_method_10_code 82 = .ok (.iconst 1, 1) := by decide +kernel
theorem dX2_atom_83 : decode prog_4_method_10_code 83 = .ok (.goto 4, 3) := by decide +kernel
theorem dX2_atom_86 : decode prog_4_method_10_code 86 = .ok (.iconst 0, 1) := by decide +kernel
theorem dX2_atom_87 : decode prog_4_method_10_code 87 = .ok (.ireturn, 1) := by decide +kernel
theorem dX2_atom_88 : decode prog_4_method_10_code 88 = .ok (.iload_n 3, 1) := by decide +kernel
theorem dX2_atom_89 : decode prog_4_method_10_code 89 = .ok (.ifCond .ge 7, 3) := by decide +kernel
theorem dX2_atom_92 : decode prog_4_method_10_code 92 = .ok (.iconst 1, 1) := by decide +kernel
theorem dX2_atom_93 : decode prog_4_method_10_code 93 = .ok (.goto 4, 3) := by decide +kernel
theorem dX2_atom_96 : decode prog_4_method_10_code 96 = .ok (.iconst 0, 1) := by decide +kernel
theorem dX2_atom_97 : decode prog_4_method_10_code 97 = .ok (.ireturn, 1) := by decide +kernel
theorem dX2_copyFrom_0 : decode prog_4_method_2_code 0 = .ok (.aload_n 1, 1) := by decide +kernel
theorem dX2_copyFrom_1 : decode prog_4_method_2_code 1 = .ok (.getfield 9, 3) := by decide +kernel
theorem dX2_copyFrom_4 : decode prog_4_method_2_code 4 = .ok (.aload_n 0, 1) := by decide +kernel
theorem dX2_copyFrom_5 : decode prog_4_method_2_code 5 = .ok (.getfield 9, 3) := by decide +kernel
theorem dX2_copyFrom_8 : decode prog_4_method_2_code 8 = .ok (.invokestatic 34, 3) := by decide +kernel
theorem dX2_copyFrom_11 : decode prog_4_method_2_code 11 = .ok (.aload_n 1, 1) := by decide +kernel
theorem dX2_copyFrom_12 : decode prog_4_method_2_code 12 = .ok (.getfield 15, 3) := by decide +kernel
theorem dX2_copyFrom_15 : decode prog_4_method_2_code 15 = .ok (.aload_n 0, 1) := by decide +kernel
theorem dX2_copyFrom_16 : decode prog_4_method_2_code 16 = .ok (.getfield 15, 3) := by decide +kernel
theorem dX2_copyFrom_19 : decode prog_4_method_2_code 19 = .ok (.invokestatic 34, 3) := by decide +kernel
theorem dX2_copyFrom_22 : decode prog_4_method_2_code 22 = .ok (.aload_n 1, 1) := by decide +kernel
theorem dX2_copyFrom_23 : decode prog_4_method_2_code 23 = .ok (.getfield 18, 3) := by decide +kernel
theorem dX2_copyFrom_26 : decode prog_4_method_2_code 26 = .ok (.aload_n 0, 1) := by decide +kernel
theorem dX2_copyFrom_27 : decode prog_4_method_2_code 27 = .ok (.getfield 18, 3) := by decide +kernel
theorem dX2_copyFrom_30 : decode prog_4_method_2_code 30 = .ok (.invokestatic 34, 3) := by decide +kernel
theorem dX2_copyFrom_33 : decode prog_4_method_2_code 33 = .ok (.aload_n 1, 1) := by decide +kernel
theorem dX2_copyFrom_34 : decode prog_4_method_2_code 34 = .ok (.getfield 21, 3) := by decide +kernel
theorem dX2_copyFrom_37 : decode prog_4_method_2_code 37 = .ok (.aload_n 0, 1) := by decide +kernel
theorem dX2_copyFrom_38 : decode prog_4_method_2_code 38 = .ok (.getfield 21, 3) := by decide +kernel
theorem dX2_copyFrom_41 : decode prog_4_method_2_code 41 = .ok (.invokestatic 34, 3) := by decide +kernel
theorem dX2_copyFrom_44 : decode prog_4_method_2_code 44 = .ok (.aload_n 0, 1) := by decide +kernel
theorem dX2_copyFrom_45 : decode prog_4_method_2_code 45 = .ok (.aload_n 1, 1) := by decide +kernel
theorem dX2_copyFrom_46 : decode prog_4_method_2_code 46 = .ok (.getfield 24, 3) := by decide +kernel
theorem dX2_copyFrom_49 : decode prog_4_method_2_code 49 = .ok (.putfield 24, 3) := by decide +kernel
theorem dX2_copyFrom_52 : decode prog_4_method_2_code 52 = .ok (.aload_n 0, 1) := by decide +kernel
theorem dX2_copyFrom_53 : decode prog_4_method_2_code 53 = .ok (.aload_n 1, 1) := by decide +kernel
theorem dX2_copyFrom_54 : decode prog_4_method_2_code 54 = .ok (.getfield 28, 3) := by decide +kernel
theorem dX2_copyFrom_57 : decode prog_4_method_2_code 57 = .ok (.putfield 28, 3) := by decide +kernel
theorem dX2_copyFrom_60 : decode prog_4_method_2_code 60 = .ok (.return_, 1) := by decide +kernel
theorem dX0_readText_0 : decode prog_2_method_2_code 0 = .ok (.aload_n 0, 1) := by decide +kernel
theorem dX0_readText_1 : decode prog_2_method_2_code 1 = .ok (.getfield 12, 3) := by decide +kernel
theorem dX0_readText_4 : decode prog_2_method_2_code 4 = .ok (.aload_n 1, 1) := by decide +kernel
theorem dX0_readText_5 : decode prog_2_method_2_code 5 = .ok (.iload_n 2, 1) := by decide +kernel
theorem dX0_readText_6 : decode prog_2_method_2_code 6 = .ok (.invokevirtual 18, 3) := by decide +kernel
theorem dX0_readText_9 : decode prog_2_method_2_code 9 = .ok (.aload_n 0, 1) := by decide +kernel
theorem dX0_readText_10 : decode prog_2_method_2_code 10 = .ok (.getfield 12, 3) := by decide +kernel
theorem dX0_readText_13 : decode prog_2_method_2_code 13 = .ok (.invokevirtual 22, 3) := by decide +kernel
theorem dX0_readText_16 : decode prog_2_method_2_code 16 = .ok (.ifCond .ne 7, 3) := by decide +kernel
theorem dX0_readText_19 : decode prog_2_method_2_code 19 = .ok (.iconst 1, 1) := by decide +kernel
theorem dX0_readText_20 : decode prog_2_method_2_code 20 = .ok (.goto 4, 3) := by decide +kernel
theorem dX0_readText_23 : decode prog_2_method_2_code 23 = .ok (.iconst 0, 1) := by decide +kernel
theorem dX0_readText_24 : decode prog_2_method_2_code 24 = .ok (.istore 4, 2) := by decide +kernel
theorem dX0_readText_26 : decode prog_2_method_2_code 26 = .ok (.iconst 0, 1) := by decide +kernel
theorem dX0_readText_27 : decode prog_2_method_2_code 27 = .ok (.istore 5, 2) := by decide +kernel
theorem dX0_readText_29 : decode prog_2_method_2_code 29 = .ok (.iload 4, 2) := by decide +kernel
theorem dX0_readText_31 : decode prog_2_method_2_code 31 = .ok (.ifCond .eq 67, 3) := by decide +kernel
theorem dX0_readText_34 : decode prog_2_method_2_code 34 = .ok (.iload 5, 2) := by decide +kernel
theorem dX0_readText_36 : decode prog_2_method_2_code 36 = .ok (.bipush 14, 2) := by decide +kernel
theorem dX0_readText_38 : decode prog_2_method_2_code 38 = .ok (.if_icmp .gt 60, 3) := by decide +kernel
theorem dX0_readText_41 : decode prog_2_method_2_code 41 = .ok (.iload 5, 2) := by decide +kernel
theorem dX0_readText_43 : decode prog_2_method_2_code 43 = .ok (.bipush 14, 2) := by decide +kernel
theorem dX0_readText_45 : decode prog_2_method_2_code 45 = .ok (.if_icmp .ne 13, 3) := by decide +kernel
theorem dX0_readText_48 : decode prog_2_method_2_code 48 = .ok (.aload_n 0, 1) := by decide +kernel
theorem dX0_readText_49 : decode prog_2_method_2_code 49 = .ok (.getfield 12, 3) := by decide +kernel
theorem dX0_readText_52 : decode prog_2_method_2_code 52 = .ok (.invokevirtual 26, 3) := by decide +kernel
theorem dX0_readText_55 : decode prog_2_method_2_code 55 = .ok (.goto 8, 3) := by decide +kernel
theorem dX0_readText_58 : decode prog_2_method_2_code 58 = .ok (.aload_n 0, 1) := by decide +kernel
theorem dX0_readText_59 : decode prog_2_method_2_code 59 = .ok (.aload_n 3, 1) := by decide +kernel
theorem dX0_readText_60 : decode prog_2_method_2_code 60 = .ok (.invokevirtual 29, 3) := by decide +kernel
theorem dX0_readText_63 : decode prog_2_method_2_code 63 = .ok (.aload_n 0, 1) := by decide +kernel
theorem dX0_readText_64 : decode prog_2_method_2_code 64 = .ok (.getfield 12, 3) := by decide +kernel
theorem dX0_readText_67 : decode prog_2_method_2_code 67 = .ok (.invokevirtual 33, 3) := by decide +kernel
theorem dX0_readText_70 : decode prog_2_method_2_code 70 = .ok (.ifCond .eq 19, 3) := by decide +kernel
theorem dX0_readText_73 : decode prog_2_method_2_code 73 = .ok (.aload_n 0, 1) := by decide +kernel
theorem dX0_readText_74 : decode prog_2_method_2_code 74 = .ok (.getfield 12, 3) := by decide +kernel
theorem dX0_readText_77 : decode prog_2_method_2_code 77 = .ok (.ldc 36, 2) := by decide +kernel
theorem dX0_readText_79 : decode prog_2_method_2_code 79 = .ok (.invokevirtual 38, 3) := by decide +kernel
theorem dX0_readText_82 : decode prog_2_method_2_code 82 = .ok (.ifCond .eq 7, 3) := by decide +kernel
theorem dX0_readText_85 : decode prog_2_method_2_code 85 = .ok (.iconst 1, 1) := by decide +kernel
theorem dX0_readText_86 : decode prog_2_method_2_code 86 = .ok (.goto 4, 3) := by decide +kernel
theorem dX0_readText_89 : decode prog_2_method_2_code 89 = .ok (.iconst 0, 1) := by decide +kernel
theorem dX0_readText_90 : decode prog_2_method_2_code 90 = .ok (.istore 4, 2) := by decide +kernel
theorem dX0_readText_92 : decode prog_2_method_2_code 92 = .ok (.iinc 5 1, 3) := by decide +kernel
theorem dX0_readText_95 : decode prog_2_method_2_code 95 = .ok (.goto (-66), 3) := by decide +kernel
theorem dX0_readText_98 : decode prog_2_method_2_code 98 = .ok (.aload_n 0, 1) := by decide +kernel
theorem dX0_readText_99 : decode prog_2_method_2_code 99 = .ok (.getfield 12, 3) := by decide +kernel
theorem dX0_readText_102 : decode prog_2_method_2_code 102 = .ok (.invokevirtual 22, 3) := by decide +kernel
theorem dX0_readText_105 : decode prog_2_method_2_code 105 = .ok (.ifCond .ne 10, 3) := by decide +kernel
theorem dX0_readText_108 : decode prog_2_method_2_code 108 = .ok (.aload_n 0, 1) := by decide +kernel
theorem dX0_readText_109 : decode prog_2_method_2_code 109 = .ok (.getfield 12, 3) := by decide +kernel
theorem dX0_readText_112 : decode prog_2_method_2_code 112 = .ok (.invokevirtual 26, 3) := by decide +kernel
theorem dX0_readText_115 : decode prog_2_method_2_code 115 = .ok (.aload_n 0, 1) := by decide +kernel
theorem dX0_readText_116 : decode prog_2_method_2_code 116 = .ok (.getfield 12, 3) := by decide +kernel
theorem dX0_readText_119 : decode prog_2_method_2_code 119 = .ok (.getfield 42, 3) := by decide +kernel
theorem dX0_readText_122 : decode prog_2_method_2_code 122 = .ok (.ireturn, 1) := by decide +kernel
theorem dX0_readLine_0 : decode prog_2_method_3_code 0 = .ok (.aload_n 0, 1) := by decide +kernel
theorem dX0_readLine_1 : decode prog_2_method_3_code 1 = .ok (.getfield 12, 3) := by decide +kernel
theorem dX0_readLine_4 : decode prog_2_method_3_code 4 = .ok (.ldc 46, 2) := by decide +kernel
theorem dX0_readLine_6 : decode prog_2_method_3_code 6 = .ok (.invokevirtual 48, 3) := by decide +kernel
theorem dX0_readLine_9 : decode prog_2_method_3_code 9 = .ok (.ifCond .eq 11, 3) := by decide +kernel
theorem dX0_readLine_12 : decode prog_2_method_3_code 12 = .ok (.aload_n 0, 1) := by decide +kernel
theorem dX0_readLine_13 : decode prog_2_method_3_code 13 = .ok (.aload_n 1, 1) := by decide +kernel
theorem dX0_readLine_14 : decode prog_2_method_3_code 14 = .ok (.invokevirtual 51, 3) := by decide +kernel
theorem dX0_readLine_17 : decode prog_2_method_3_code 17 = .ok (.goto 178, 3) := by decide +kernel
theorem dX0_readLine_20 : decode prog_2_method_3_code 20 = .ok (.aload_n 0, 1) := by decide +kernel
theorem dX0_readLine_21 : decode prog_2_method_3_code 21 = .ok (.getfield 12, 3) := by decide +kernel
theorem dX0_readLine_24 : decode prog_2_method_3_code 24 = .ok (.ldc 54, 2) := by decide +kernel
theorem dX0_readLine_26 : decode prog_2_method_3_code 26 = .ok (.invokevirtual 38, 3) := by decide +kernel
theorem dX0_readLine_29 : decode prog_2_method_3_code 29 = .ok (.ifCond .eq 17, 3) := by decide +kernel
theorem dX0_readLine_32 : decode prog_2_method_3_code 32 = .ok (.aload_n 0, 1) := by decide +kernel
theorem dX0_readLine_33 : decode prog_2_method_3_code 33 = .ok (.aload_n 1, 1) := by decide +kernel
theorem dX0_readLine_34 : decode prog_2_method_3_code 34 = .ok (.getfield 56, 3) := by decide +kernel
theorem dX0_readLine_37 : decode prog_2_method_3_code 37 = .ok (.iconst 2, 1) := by decide +kernel
theorem dX0_readLine_38 : decode prog_2_method_3_code 38 = .ok (.bipush 20, 2) := by decide +kernel
theorem dX0_readLine_40 : decode prog_2_method_3_code 40 = .ok (.invokevirtual 61, 3) := by decide +kernel
theorem dX0_readLine_43 : decode prog_2_method_3_code 43 = .ok (.goto 152, 3) := by decide +kernel
theorem dX0_readLine_46 : decode prog_2_method_3_code 46 = .ok (.aload_n 0, 1) := by decide +kernel
theorem dX0_readLine_47 : decode prog_2_method_3_code 47 = .ok (.getfield 12, 3) := by decide +kernel
theorem dX0_readLine_50 : decode prog_2_method_3_code 50 = .ok (.ldc 65, 2) := by decide +kernel
theorem dX0_readLine_52 : decode prog_2_method_3_code 52 = .ok (.invokevirtual 38, 3) := by decide +kernel
theorem dX0_readLine_55 : decode prog_2_method_3_code 55 = .ok (.ifCond .eq 18, 3) := by decide +kernel
theorem dX0_readLine_58 : decode prog_2_method_3_code 58 = .ok (.aload_n 0, 1) := by decide +kernel
theorem dX0_readLine_59 : decode prog_2_method_3_code 59 = .ok (.aload_n 1, 1) := by decide +kernel
theorem dX0_readLine_60 : decode prog_2_method_3_code 60 = .ok (.getfield 67, 3) := by decide +kernel
theorem dX0_readLine_63 : decode prog_2_method_3_code 63 = .ok (.bipush 6, 2) := by decide +kernel
theorem dX0_readLine_65 : decode prog_2_method_3_code 65 = .ok (.bipush 99, 2) := by decide +kernel
theorem dX0_readLine_67 : decode prog_2_method_3_code 67 = .ok (.invokevirtual 61, 3) := by decide +kernel
theorem dX0_readLine_70 : decode prog_2_method_3_code 70 = .ok (.goto 125, 3) := by decide +kernel
theorem dX0_readLine_73 : decode prog_2_method_3_code 73 = .ok (.aload_n 0, 1) := by decide +kernel
theorem dX0_readLine_74 : decode prog_2_method_3_code 74 = .ok (.getfield 12, 3) := by decide +kernel
theorem dX0_readLine_77 : decode prog_2_method_3_code 77 = .ok (.ldc 69, 2) := by decide +kernel
theorem dX0_readLine_79 : decode prog_2_method_3_code 79 = .ok (.invokevirtual 38, 3) := by decide +kernel
theorem dX0_readLine_82 : decode prog_2_method_3_code 82 = .ok (.ifCond .eq 18, 3) := by decide +kernel
theorem dX0_readLine_85 : decode prog_2_method_3_code 85 = .ok (.aload_n 0, 1) := by decide +kernel
theorem dX0_readLine_86 : decode prog_2_method_3_code 86 = .ok (.aload_n 1, 1) := by decide +kernel
theorem dX0_readLine_87 : decode prog_2_method_3_code 87 = .ok (.getfield 71, 3) := by decide +kernel
theorem dX0_readLine_90 : decode prog_2_method_3_code 90 = .ok (.bipush 6, 2) := by decide +kernel
theorem dX0_readLine_92 : decode prog_2_method_3_code 92 = .ok (.bipush 12, 2) := by decide +kernel
theorem dX0_readLine_94 : decode prog_2_method_3_code 94 = .ok (.invokevirtual 61, 3) := by decide +kernel
theorem dX0_readLine_97 : decode prog_2_method_3_code 97 = .ok (.goto 98, 3) := by decide +kernel
theorem dX0_readLine_100 : decode prog_2_method_3_code 100 = .ok (.aload_n 0, 1) := by decide +kernel
theorem dX0_readLine_101 : decode prog_2_method_3_code 101 = .ok (.getfield 12, 3) := by decide +kernel
theorem dX0_readLine_104 : decode prog_2_method_3_code 104 = .ok (.ldc 73, 2) := by decide +kernel
theorem dX0_readLine_106 : decode prog_2_method_3_code 106 = .ok (.invokevirtual 38, 3) := by decide +kernel
theorem dX0_readLine_109 : decode prog_2_method_3_code 109 = .ok (.ifCond .eq 20, 3) := by decide +kernel
theorem dX0_readLine_112 : decode prog_2_method_3_code 112 = .ok (.aload_n 0, 1) := by decide +kernel
theorem dX0_readLine_113 : decode prog_2_method_3_code 113 = .ok (.aload_n 1, 1) := by decide +kernel
theorem dX0_readLine_114 : decode prog_2_method_3_code 114 = .ok (.getfield 75, 3) := by decide +kernel
theorem dX0_readLine_117 : decode prog_2_method_3_code 117 = .ok (.aload_n 1, 1) := by decide +kernel
theorem dX0_readLine_118 : decode prog_2_method_3_code 118 = .ok (.getfield 77, 3) := by decide +kernel
theorem dX0_readLine_121 : decode prog_2_method_3_code 121 = .ok (.bipush 99, 2) := by decide +kernel
theorem dX0_readLine_123 : decode prog_2_method_3_code 123 = .ok (.invokevirtual 61, 3) := by decide +kernel
theorem dX0_readLine_126 : decode prog_2_method_3_code 126 = .ok (.goto 69, 3) := by decide +kernel
theorem dX0_readLine_129 : decode prog_2_method_3_code 129 = .ok (.aload_n 0, 1) := by decide +kernel
theorem dX0_readLine_130 : decode prog_2_method_3_code 130 = .ok (.getfield 12, 3) := by decide +kernel
theorem dX0_readLine_133 : decode prog_2_method_3_code 133 = .ok (.ldc 80, 2) := by decide +kernel
theorem dX0_readLine_135 : decode prog_2_method_3_code 135 = .ok (.invokevirtual 38, 3) := by decide +kernel
theorem dX0_readLine_138 : decode prog_2_method_3_code 138 = .ok (.ifCond .eq 20, 3) := by decide +kernel
theorem dX0_readLine_141 : decode prog_2_method_3_code 141 = .ok (.aload_n 1, 1) := by decide +kernel
theorem dX0_readLine_142 : decode prog_2_method_3_code 142 = .ok (.aload_n 0, 1) := by decide +kernel
theorem dX0_readLine_143 : decode prog_2_method_3_code 143 = .ok (.getfield 12, 3) := by decide +kernel
theorem dX0_readLine_146 : decode prog_2_method_3_code 146 = .ok (.iconst 0, 1) := by decide +kernel
theorem dX0_readLine_147 : decode prog_2_method_3_code 147 = .ok (.bipush 100, 2) := by decide +kernel
theorem dX0_readLine_149 : decode prog_2_method_3_code 149 = .ok (.invokevirtual 82, 3) := by decide +kernel
theorem dX0_readLine_152 : decode prog_2_method_3_code 152 = .ok (.putfield 86, 3) := by decide +kernel
theorem dX0_readLine_155 : decode prog_2_method_3_code 155 = .ok (.goto 40, 3) := by decide +kernel
theorem dX0_readLine_158 : decode prog_2_method_3_code 158 = .ok (.aload_n 0, 1) := by decide +kernel
theorem dX0_readLine_159 : decode prog_2_method_3_code 159 = .ok (.getfield 12, 3) := by decide +kernel
theorem dX0_readLine_162 : decode prog_2_method_3_code 162 = .ok (.ldc 88, 2) := by decide +kernel
theorem dX0_readLine_164 : decode prog_2_method_3_code 164 = .ok (.invokevirtual 38, 3) := by decide +kernel
theorem dX0_readLine_167 : decode prog_2_method_3_code 167 = .ok (.ifCond .eq 21, 3) := by decide +kernel
theorem dX0_readLine_170 : decode prog_2_method_3_code 170 = .ok (.aload_n 1, 1) := by decide +kernel
theorem dX0_readLine_171 : decode prog_2_method_3_code 171 = .ok (.aload_n 0, 1) := by decide +kernel
theorem dX0_readLine_172 : decode prog_2_method_3_code 172 = .ok (.getfield 12, 3) := by decide +kernel
theorem dX0_readLine_175 : decode prog_2_method_3_code 175 = .ok (.iconst 0, 1) := by decide +kernel
theorem dX0_readLine_176 : decode prog_2_method_3_code 176 = .ok (.sipush 999, 3) := by decide +kernel
theorem dX0_readLine_179 : decode prog_2_method_3_code 179 = .ok (.invokevirtual 82, 3) := by decide +kernel
theorem dX0_readLine_182 : decode prog_2_method_3_code 182 = .ok (.putfield 90, 3) := by decide +kernel
theorem dX0_readLine_185 : decode prog_2_method_3_code 185 = .ok (.goto 10, 3) := by decide +kernel
theorem dX0_readLine_188 : decode prog_2_method_3_code 188 = .ok (.aload_n 0, 1) := by decide +kernel
theorem dX0_readLine_189 : decode prog_2_method_3_code 189 = .ok (.getfield 12, 3) := by decide +kernel
theorem dX0_readLine_192 : decode prog_2_method_3_code 192 = .ok (.invokevirtual 26, 3) := by decide +kernel
theorem dX0_readLine_195 : decode prog_2_method_3_code 195 = .ok (.return_, 1) := by decide +kernel
theorem dX0_readItem_0 : decode prog_2_method_5_code 0 = .ok (.aload_n 1, 1) := by decide +kernel
theorem dX0_readItem_1 : decode prog_2_method_5_code 1 = .ok (.getfield 77, 3) := by decide +kernel
theorem dX0_readItem_4 : decode prog_2_method_5_code 4 = .ok (.bipush 12, 2) := by decide +kernel
theorem dX0_readItem_6 : decode prog_2_method_5_code 6 = .ok (.if_icmp .lt 11, 3) := by decide +kernel
theorem dX0_readItem_9 : decode prog_2_method_5_code 9 = .ok (.aload_n 0, 1) := by decide +kernel
theorem dX0_readItem_10 : decode prog_2_method_5_code 10 = .ok (.getfield 12, 3) := by decide +kernel
theorem dX0_readItem_13 : decode prog_2_method_5_code 13 = .ok (.invokevirtual 26, 3) := by decide +kernel
theorem dX0_readItem_16 : decode prog_2_method_5_code 16 = .ok (.return_, 1) := by decide +kernel
theorem dX0_readItem_17 : decode prog_2_method_5_code 17 = .ok (.aload_n 0, 1) := by decide +kernel
theorem dX0_readItem_18 : decode prog_2_method_5_code 18 = .ok (.getfield 12, 3) := by decide +kernel
theorem dX0_readItem_21 : decode prog_2_method_5_code 21 = .ok (.ldc 46, 2) := by decide +kernel
theorem dX0_readItem_23 : decode prog_2_method_5_code 23 = .ok (.invokevirtual 95, 3) := by decide +kernel
theorem dX0_readItem_26 : decode prog_2_method_5_code 26 = .ok (.aload_n 0, 1) := by decide +kernel
theorem dX0_readItem_27 : decode prog_2_method_5_code 27 = .ok (.getfield 12, 3) := by decide +kernel
theorem dX0_readItem_30 : decode prog_2_method_5_code 30 = .ok (.iconst 1, 1) := by decide +kernel
theorem dX0_readItem_31 : decode prog_2_method_5_code 31 = .ok (.bipush 99, 2) := by decide +kernel
theorem dX0_readItem_33 : decode prog_2_method_5_code 33 = .ok (.invokevirtual 82, 3) := by decide +kernel
theorem dX0_readItem_36 : decode prog_2_method_5_code 36 = .ok (.istore_n 2, 1) := by decide +kernel
theorem dX0_readItem_37 : decode prog_2_method_5_code 37 = .ok (.aload_n 0, 1) := by decide +kernel
theorem dX0_readItem_38 : decode prog_2_method_5_code 38 = .ok (.getfield 12, 3) := by decide +kernel
theorem dX0_readItem_41 : decode prog_2_method_5_code 41 = .ok (.ldc 99, 2) := by decide +kernel
theorem dX0_readItem_43 : decode prog_2_method_5_code 43 = .ok (.invokevirtual 95, 3) := by decide +kernel
theorem dX0_readItem_46 : decode prog_2_method_5_code 46 = .ok (.aload_n 0, 1) := by decide +kernel
theorem dX0_readItem_47 : decode prog_2_method_5_code 47 = .ok (.getfield 12, 3) := by decide +kernel
theorem dX0_readItem_50 : decode prog_2_method_5_code 50 = .ok (.iconst 0, 1) := by decide +kernel
theorem dX0_readItem_51 : decode prog_2_method_5_code 51 = .ok (.iconst 5, 1) := by decide +kernel
theorem dX0_readItem_52 : decode prog_2_method_5_code 52 = .ok (.invokevirtual 82, 3) := by decide +kernel
theorem dX0_readItem_55 : decode prog_2_method_5_code 55 = .ok (.istore_n 3, 1) := by decide +kernel
theorem dX0_readItem_56 : decode prog_2_method_5_code 56 = .ok (.aload_n 0, 1) := by decide +kernel
theorem dX0_readItem_57 : decode prog_2_method_5_code 57 = .ok (.getfield 12, 3) := by decide +kernel
theorem dX0_readItem_60 : decode prog_2_method_5_code 60 = .ok (.ldc 101, 2) := by decide +kernel
theorem dX0_readItem_62 : decode prog_2_method_5_code 62 = .ok (.invokevirtual 95, 3) := by decide +kernel
theorem dX0_readItem_65 : decode prog_2_method_5_code 65 = .ok (.aload_n 0, 1) := by decide +kernel
theorem dX0_readItem_66 : decode prog_2_method_5_code 66 = .ok (.getfield 12, 3) := by decide +kernel
theorem dX0_readItem_69 : decode prog_2_method_5_code 69 = .ok (.iconst 0, 1) := by decide +kernel
theorem dX0_readItem_70 : decode prog_2_method_5_code 70 = .ok (.iconst 1, 1) := by decide +kernel
theorem dX0_readItem_71 : decode prog_2_method_5_code 71 = .ok (.invokevirtual 82, 3) := by decide +kernel
theorem dX0_readItem_74 : decode prog_2_method_5_code 74 = .ok (.istore 4, 2) := by decide +kernel
theorem dX0_readItem_76 : decode prog_2_method_5_code 76 = .ok (.aload_n 0, 1) := by decide +kernel
theorem dX0_readItem_77 : decode prog_2_method_5_code 77 = .ok (.getfield 12, 3) := by decide +kernel
theorem dX0_readItem_80 : decode prog_2_method_5_code 80 = .ok (.ldc 103, 2) := by decide +kernel
theorem dX0_readItem_82 : decode prog_2_method_5_code 82 = .ok (.invokevirtual 38, 3) := by decide +kernel
theorem dX0_readItem_85 : decode prog_2_method_5_code 85 = .ok (.ifCond .eq 15, 3) := by decide +kernel
theorem dX0_readItem_88 : decode prog_2_method_5_code 88 = .ok (.aload_n 0, 1) := by decide +kernel
theorem dX0_readItem_89 : decode prog_2_method_5_code 89 = .ok (.getfield 12, 3) := by decide +kernel
theorem dX0_readItem_92 : decode prog_2_method_5_code 92 = .ok (.iconst 0, 1) := by decide +kernel
theorem dX0_readItem_93 : decode prog_2_method_5_code 93 = .ok (.iconst 5, 1) := by decide +kernel
theorem dX0_readItem_94 : decode prog_2_method_5_code 94 = .ok (.invokevirtual 82, 3) := by decide +kernel
theorem dX0_readItem_97 : decode prog_2_method_5_code 97 = .ok (.goto 4, 3) := by decide +kernel
theorem dX0_readItem_100 : decode prog_2_method_5_code 100 = .ok (.iload_n 3, 1) := by decide +kernel
theorem dX0_readItem_101 : decode prog_2_method_5_code 101 = .ok (.istore 5, 2) := by decide +kernel
theorem dX0_readItem_103 : decode prog_2_method_5_code 103 = .ok (.aload_n 1, 1) := by decide +kernel
theorem dX0_readItem_104 : decode prog_2_method_5_code 104 = .ok (.iload_n 2, 1) := by decide +kernel
theorem dX0_readItem_105 : decode prog_2_method_5_code 105 = .ok (.iload_n 3, 1) := by decide +kernel
theorem dX0_readItem_106 : decode prog_2_method_5_code 106 = .ok (.iload 4, 2) := by decide +kernel
theorem dX0_readItem_108 : decode prog_2_method_5_code 108 = .ok (.iload 5, 2) := by decide +kernel
theorem dX0_readItem_110 : decode prog_2_method_5_code 110 = .ok (.invokevirtual 105, 3) := by decide +kernel
theorem dX0_readItem_113 : decode prog_2_method_5_code 113 = .ok (.return_, 1) := by decide +kernel
theorem dX0_readCell_0 : decode prog_2_method_4_code 0 = .ok (.aload_n 0, 1) := by decide +kernel
theorem dX0_readCell_1 : decode prog_2_method_4_code 1 = .ok (.getfield 12, 3) := by decide +kernel
theorem dX0_readCell_4 : decode prog_2_method_4_code 4 = .ok (.iconst 0, 1) := by decide +kernel
theorem dX0_readCell_5 : decode prog_2_method_4_code 5 = .ok (.iload_n 2, 1) := by decide +kernel
theorem dX0_readCell_6 : decode prog_2_method_4_code 6 = .ok (.iconst 1, 1) := by decide +kernel
theorem dX0_readCell_7 : decode prog_2_method_4_code 7 = .ok (.isub, 1) := by decide +kernel
theorem dX0_readCell_8 : decode prog_2_method_4_code 8 = .ok (.invokevirtual 82, 3) := by decide +kernel
theorem dX0_readCell_11 : decode prog_2_method_4_code 11 = .ok (.istore 4, 2) := by decide +kernel
theorem dX0_readCell_13 : decode prog_2_method_4_code 13 = .ok (.aload_n 1, 1) := by decide +kernel
theorem dX0_readCell_14 : decode prog_2_method_4_code 14 = .ok (.iload 4, 2) := by decide +kernel
theorem dX0_readCell_16 : decode prog_2_method_4_code 16 = .ok (.aload_n 0, 1) := by decide +kernel
theorem dX0_readCell_17 : decode prog_2_method_4_code 17 = .ok (.getfield 12, 3) := by decide +kernel
theorem dX0_readCell_20 : decode prog_2_method_4_code 20 = .ok (.iconst 0, 1) := by decide +kernel
theorem dX0_readCell_21 : decode prog_2_method_4_code 21 = .ok (.iload_n 3, 1) := by decide +kernel
theorem dX0_readCell_22 : decode prog_2_method_4_code 22 = .ok (.invokevirtual 82, 3) := by decide +kernel
theorem dX0_readCell_25 : decode prog_2_method_4_code 25 = .ok (.invokestatic 92, 3) := by decide +kernel
theorem dX0_readCell_28 : decode prog_2_method_4_code 28 = .ok (.return_, 1) := by decide +kernel
theorem dX3_readText_0 : decode prog_5_method_2_code 0 = .ok (.aload_n 0, 1) := by decide +kernel
theorem dX3_readText_1 : decode prog_5_method_2_code 1 = .ok (.getfield 12, 3) := by decide +kernel
theorem dX3_readText_4 : decode prog_5_method_2_code 4 = .ok (.aload_n 1, 1) := by decide +kernel
theorem dX3_readText_5 : decode prog_5_method_2_code 5 = .ok (.iload_n 2, 1) := by decide +kernel
theorem dX3_readText_6 : decode prog_5_method_2_code 6 = .ok (.invokevirtual 29, 3) := by decide +kernel
theorem dX3_readText_9 : decode prog_5_method_2_code 9 = .ok (.aload_n 3, 1) := by decide +kernel
theorem dX3_readText_10 : decode prog_5_method_2_code 10 = .ok (.invokevirtual 33, 3) := by decide +kernel
theorem dX3_readText_13 : decode prog_5_method_2_code 13 = .ok (.aload_n 0, 1) := by decide +kernel
theorem dX3_readText_14 : decode prog_5_method_2_code 14 = .ok (.getfield 12, 3) := by decide +kernel
theorem dX3_readText_17 : decode prog_5_method_2_code 17 = .ok (.invokevirtual 38, 3) := by decide +kernel
theorem dX3_readText_20 : decode prog_5_method_2_code 20 = .ok (.ifCond .ne 7, 3) := by decide +kernel
theorem dX3_readText_23 : decode prog_5_method_2_code 23 = .ok (.iconst 1, 1) := by decide +kernel
theorem dX3_readText_24 : decode prog_5_method_2_code 24 = .ok (.goto 4, 3) := by decide +kernel
theorem dX3_readText_27 : decode prog_5_method_2_code 27 = .ok (.iconst 0, 1) := by decide +kernel
theorem dX3_readText_28 : decode prog_5_method_2_code 28 = .ok (.istore 4, 2) := by decide +kernel
theorem dX3_readText_30 : decode prog_5_method_2_code 30 = .ok (.iconst 0, 1) := by decide +kernel
theorem dX3_readText_31 : decode prog_5_method_2_code 31 = .ok (.istore 5, 2) := by decide +kernel
theorem dX3_readText_33 : decode prog_5_method_2_code 33 = .ok (.iload 4, 2) := by decide +kernel
theorem dX3_readText_35 : decode prog_5_method_2_code 35 = .ok (.ifCond .eq 67, 3) := by decide +kernel
theorem dX3_readText_38 : decode prog_5_method_2_code 38 = .ok (.iload 5, 2) := by decide +kernel
theorem dX3_readText_40 : decode prog_5_method_2_code 40 = .ok (.bipush 12, 2) := by decide +kernel
theorem dX3_readText_42 : decode prog_5_method_2_code 42 = .ok (.if_icmp .gt 60, 3) := by decide +kernel
theorem dX3_readText_45 : decode prog_5_method_2_code 45 = .ok (.iload 5, 2) := by decide +kernel
theorem dX3_readText_47 : decode prog_5_method_2_code 47 = .ok (.bipush 12, 2) := by decide +kernel
theorem dX3_readText_49 : decode prog_5_method_2_code 49 = .ok (.if_icmp .ne 13, 3) := by decide +kernel
theorem dX3_readText_52 : decode prog_5_method_2_code 52 = .ok (.aload_n 0, 1) := by decide +kernel
theorem dX3_readText_53 : decode prog_5_method_2_code 53 = .ok (.getfield 12, 3) := by decide +kernel
theorem dX3_readText_56 : decode prog_5_method_2_code 56 = .ok (.invokevirtual 42, 3) := by decide +kernel
theorem dX3_readText_59 : decode prog_5_method_2_code 59 = .ok (.goto 8, 3) := by decide +kernel
theorem dX3_readText_62 : decode prog_5_method_2_code 62 = .ok (.aload_n 0, 1) := by decide +kernel
theorem dX3_readText_63 : decode prog_5_method_2_code 63 = .ok (.aload_n 3, 1) := by decide +kernel
theorem dX3_readText_64 : decode prog_5_method_2_code 64 = .ok (.invokevirtual 45, 3) := by decide +kernel
theorem dX3_readText_67 : decode prog_5_method_2_code 67 = .ok (.aload_n 0, 1) := by decide +kernel
theorem dX3_readText_68 : decode prog_5_method_2_code 68 = .ok (.getfield 12, 3) := by decide +kernel
theorem dX3_readText_71 : decode prog_5_method_2_code 71 = .ok (.invokevirtual 49, 3) := by decide +kernel
theorem dX3_readText_74 : decode prog_5_method_2_code 74 = .ok (.ifCond .eq 19, 3) := by decide +kernel
theorem dX3_readText_77 : decode prog_5_method_2_code 77 = .ok (.aload_n 0, 1) := by decide +kernel
theorem dX3_readText_78 : decode prog_5_method_2_code 78 = .ok (.getfield 12, 3) := by decide +kernel
theorem dX3_readText_81 : decode prog_5_method_2_code 81 = .ok (.ldc 52, 2) := by decide +kernel
theorem dX3_readText_83 : decode prog_5_method_2_code 83 = .ok (.invokevirtual 54, 3) := by decide +kernel
theorem dX3_readText_86 : decode prog_5_method_2_code 86 = .ok (.ifCond .eq 7, 3) := by decide +kernel
theorem dX3_readText_89 : decode prog_5_method_2_code 89 = .ok (.iconst 1, 1) := by decide +kernel
theorem dX3_readText_90 : decode prog_5_method_2_code 90 = .ok (.goto 4, 3) := by decide +kernel
theorem dX3_readText_93 : decode prog_5_method_2_code 93 = .ok (.iconst 0, 1) := by decide +kernel
theorem dX3_readText_94 : decode prog_5_method_2_code 94 = .ok (.istore 4, 2) := by decide +kernel
theorem dX3_readText_96 : decode prog_5_method_2_code 96 = .ok (.iinc 5 1, 3) := by decide +kernel
theorem dX3_readText_99 : decode prog_5_method_2_code 99 = .ok (.goto (-66), 3) := by decide +kernel
theorem dX3_readText_102 : decode prog_5_method_2_code 102 = .ok (.aload_n 0, 1) := by decide +kernel
theorem dX3_readText_103 : decode prog_5_method_2_code 103 = .ok (.getfield 12, 3) := by decide +kernel
theorem dX3_readText_106 : decode prog_5_method_2_code 106 = .ok (.invokevirtual 38, 3) := by decide +kernel
theorem dX3_readText_109 : decode prog_5_method_2_code 109 = .ok (.ifCond .ne 10, 3) := by decide +kernel
theorem dX3_readText_112 : decode prog_5_method_2_code 112 = .ok (.aload_n 0, 1) := by decide +kernel
theorem dX3_readText_113 : decode prog_5_method_2_code 113 = .ok (.getfield 12, 3) := by decide +kernel
theorem dX3_readText_116 : decode prog_5_method_2_code 116 = .ok (.invokevirtual 42, 3) := by decide +kernel
theorem dX3_readText_119 : decode prog_5_method_2_code 119 = .ok (.aload_n 0, 1) := by decide +kernel
theorem dX3_readText_120 : decode prog_5_method_2_code 120 = .ok (.getfield 12, 3) := by decide +kernel
theorem dX3_readText_123 : decode prog_5_method_2_code 123 = .ok (.getfield 58, 3) := by decide +kernel
theorem dX3_readText_126 : decode prog_5_method_2_code 126 = .ok (.ireturn, 1) := by decide +kernel
theorem dX2_clear_0 : decode prog_4_method_3_code 0 = .ok (.aload_n 0, 1) := by decide +kernel
theorem dX2_clear_1 : decode prog_4_method_3_code 1 = .ok (.iconst 0, 1) := by decide +kernel
theorem dX2_clear_2 : decode prog_4_method_3_code 2 = .ok (.putfield 24, 3) := by decide +kernel
theorem dX2_clear_5 : decode prog_4_method_3_code 5 = .ok (.aload_n 0, 1) := by decide +kernel
theorem dX2_clear_6 : decode prog_4_method_3_code 6 = .ok (.iconst 0, 1) := by decide +kernel
theorem dX2_clear_7 : decode prog_4_method_3_code 7 = .ok (.putfield 28, 3) := by decide +kernel
theorem dX2_clear_10 : decode prog_4_method_3_code 10 = .ok (.return_, 1) := by decide +kernel
theorem dX3_readLine_0 : decode prog_5_method_3_code 0 = .ok (.aload_n 0, 1) := by decide +kernel
theorem dX3_readLine_1 : decode prog_5_method_3_code 1 = .ok (.getfield 12, 3) := by decide +kernel
theorem dX3_readLine_4 : decode prog_5_method_3_code 4 = .ok (.ldc 61, 2) := by decide +kernel
theorem dX3_readLine_6 : decode prog_5_method_3_code 6 = .ok (.invokevirtual 63, 3) := by decide +kernel
theorem dX3_readLine_9 : decode prog_5_method_3_code 9 = .ok (.ifCond .eq 7, 3) := by decide +kernel
theorem dX3_readLine_12 : decode prog_5_method_3_code 12 = .ok (.iconst 0, 1) := by decide +kernel
theorem dX3_readLine_13 : decode prog_5_method_3_code 13 = .ok (.goto 36, 3) := by decide +kernel
theorem dX3_readLine_16 : decode prog_5_method_3_code 16 = .ok (.aload_n 0, 1) := by decide +kernel
theorem dX3_readLine_17 : decode prog_5_method_3_code 17 = .ok (.getfield 12, 3) := by decide +kernel
theorem dX3_readLine_20 : decode prog_5_method_3_code 20 = .ok (.ldc 66, 2) := by decide +kernel
theorem dX3_readLine_22 : decode prog_5_method_3_code 22 = .ok (.invokevirtual 63, 3) := by decide +kernel
theorem dX3_readLine_25 : decode prog_5_method_3_code 25 = .ok (.ifCond .eq 7, 3) := by decide +kernel
theorem dX3_readLine_28 : decode prog_5_method_3_code 28 = .ok (.iconst 1, 1) := by decide +kernel
theorem dX3_readLine_29 : decode prog_5_method_3_code 29 = .ok (.goto 20, 3) := by decide +kernel
theorem dX3_readLine_32 : decode prog_5_method_3_code 32 = .ok (.aload_n 0, 1) := by decide +kernel
theorem dX3_readLine_33 : decode prog_5_method_3_code 33 = .ok (.getfield 12, 3) := by decide +kernel
theorem dX3_readLine_36 : decode prog_5_method_3_code 36 = .ok (.ldc 68, 2) := by decide +kernel
theorem dX3_readLine_38 : decode prog_5_method_3_code 38 = .ok (.invokevirtual 63, 3) := by decide +kernel
theorem dX3_readLine_41 : decode prog_5_method_3_code 41 = .ok (.ifCond .eq 7, 3) := by decide +kernel
theorem dX3_readLine_44 : decode prog_5_method_3_code 44 = .ok (.iconst 2, 1) := by decide +kernel
theorem dX3_readLine_45 : decode prog_5_method_3_code 45 = .ok (.goto 4, 3) := by decide +kernel
theorem dX3_readLine_48 : decode prog_5_method_3_code 48 = .ok (.iconst (-1), 1) := by decide +kernel
theorem dX3_readLine_49 : decode prog_5_method_3_code 49 = .ok (.istore_n 2, 1) := by decide +kernel
theorem dX3_readLine_50 : decode prog_5_method_3_code 50 = .ok (.iload_n 2, 1) := by decide +kernel
theorem dX3_readLine_51 : decode prog_5_method_3_code 51 = .ok (.iconst (-1), 1) := by decide +kernel
theorem dX3_readLine_52 : decode prog_5_method_3_code 52 = .ok (.if_icmp .ne 11, 3) := by decide +kernel
theorem dX3_readLine_55 : decode prog_5_method_3_code 55 = .ok (.aload_n 0, 1) := by decide +kernel
theorem dX3_readLine_56 : decode prog_5_method_3_code 56 = .ok (.getfield 12, 3) := by decide +kernel
theorem dX3_readLine_59 : decode prog_5_method_3_code 59 = .ok (.invokevirtual 42, 3) := by decide +kernel
theorem dX3_readLine_62 : decode prog_5_method_3_code 62 = .ok (.return_, 1) := by decide +kernel
theorem dX3_readLine_63 : decode prog_5_method_3_code 63 = .ok (.aload_n 0, 1) := by decide +kernel
theorem dX3_readLine_64 : decode prog_5_method_3_code 64 = .ok (.getfield 12, 3) := by decide +kernel
theorem dX3_readLine_67 : decode prog_5_method_3_code 67 = .ok (.invokevirtual 70, 3) := by decide +kernel
theorem dX3_readLine_70 : decode prog_5_method_3_code 70 = .ok (.aload_n 1, 1) := by decide +kernel
theorem dX3_readLine_71 : decode prog_5_method_3_code 71 = .ok (.iload_n 2, 1) := by decide +kernel
theorem dX3_readLine_72 : decode prog_5_method_3_code 72 = .ok (.aload_n 0, 1) := by decide +kernel
theorem dX3_readLine_73 : decode prog_5_method_3_code 73 = .ok (.getfield 12, 3) := by decide +kernel
theorem dX3_readLine_76 : decode prog_5_method_3_code 76 = .ok (.iconst 0, 1) := by decide +kernel
theorem dX3_readLine_77 : decode prog_5_method_3_code 77 = .ok (.bipush 20, 2) := by decide +kernel
theorem dX3_readLine_79 : decode prog_5_method_3_code 79 = .ok (.invokevirtual 73, 3) := by decide +kernel
theorem dX3_readLine_82 : decode prog_5_method_3_code 82 = .ok (.invokevirtual 77, 3) := by decide +kernel
theorem dX3_readLine_85 : decode prog_5_method_3_code 85 = .ok (.aload_n 0, 1) := by decide +kernel
theorem dX3_readLine_86 : decode prog_5_method_3_code 86 = .ok (.getfield 12, 3) := by decide +kernel
theorem dX3_readLine_89 : decode prog_5_method_3_code 89 = .ok (.ldc 81, 2) := by decide +kernel
theorem dX3_readLine_91 : decode prog_5_method_3_code 91 = .ok (.invokevirtual 54, 3) := by decide +kernel
theorem dX3_readLine_94 : decode prog_5_method_3_code 94 = .ok (.ifCond .eq 8, 3) := by decide +kernel
theorem dX3_readLine_97 : decode prog_5_method_3_code 97 = .ok (.aload_n 0, 1) := by decide +kernel
theorem dX3_readLine_98 : decode prog_5_method_3_code 98 = .ok (.aload_n 1, 1) := by decide +kernel
theorem dX3_readLine_99 : decode prog_5_method_3_code 99 = .ok (.invokevirtual 83, 3) := by decide +kernel
theorem dX3_readLine_102 : decode prog_5_method_3_code 102 = .ok (.aload_n 1, 1) := by decide +kernel
theorem dX3_readLine_103 : decode prog_5_method_3_code 103 = .ok (.invokevirtual 86, 3) := by decide +kernel
theorem dX3_readLine_106 : decode prog_5_method_3_code 106 = .ok (.return_, 1) := by decide +kernel
theorem dX2_beginLine_0 : decode prog_4_method_4_code 0 = .ok (.aload_n 0, 1) := by decide +kernel
theorem dX2_beginLine_1 : decode prog_4_method_4_code 1 = .ok (.getfield 9, 3) := by decide +kernel
theorem dX2_beginLine_4 : decode prog_4_method_4_code 4 = .ok (.aload_n 0, 1) := by decide +kernel
theorem dX2_beginLine_5 : decode prog_4_method_4_code 5 = .ok (.getfield 28, 3) := by decide +kernel
theorem dX2_beginLine_8 : decode prog_4_method_4_code 8 = .ok (.iload_n 1, 1) := by decide +kernel
theorem dX2_beginLine_9 : decode prog_4_method_4_code 9 = .ok (.invokestatic 38, 3) := by decide +kernel
theorem dX2_beginLine_12 : decode prog_4_method_4_code 12 = .ok (.aload_n 0, 1) := by decide +kernel
theorem dX2_beginLine_13 : decode prog_4_method_4_code 13 = .ok (.getfield 15, 3) := by decide +kernel
theorem dX2_beginLine_16 : decode prog_4_method_4_code 16 = .ok (.aload_n 0, 1) := by decide +kernel
theorem dX2_beginLine_17 : decode prog_4_method_4_code 17 = .ok (.getfield 28, 3) := by decide +kernel
theorem dX2_beginLine_20 : decode prog_4_method_4_code 20 = .ok (.iload_n 2, 1) := by decide +kernel
theorem dX2_beginLine_21 : decode prog_4_method_4_code 21 = .ok (.invokestatic 38, 3) := by decide +kernel
theorem dX2_beginLine_24 : decode prog_4_method_4_code 24 = .ok (.aload_n 0, 1) := by decide +kernel
theorem dX2_beginLine_25 : decode prog_4_method_4_code 25 = .ok (.getfield 18, 3) := by decide +kernel
theorem dX2_beginLine_28 : decode prog_4_method_4_code 28 = .ok (.aload_n 0, 1) := by decide +kernel
theorem dX2_beginLine_29 : decode prog_4_method_4_code 29 = .ok (.getfield 28, 3) := by decide +kernel
theorem dX2_beginLine_32 : decode prog_4_method_4_code 32 = .ok (.aload_n 0, 1) := by decide +kernel
theorem dX2_beginLine_33 : decode prog_4_method_4_code 33 = .ok (.getfield 24, 3) := by decide +kernel
theorem dX2_beginLine_36 : decode prog_4_method_4_code 36 = .ok (.invokestatic 38, 3) := by decide +kernel
theorem dX2_beginLine_39 : decode prog_4_method_4_code 39 = .ok (.return_, 1) := by decide +kernel
theorem dX3_readCondition_0 : decode prog_5_method_4_code 0 = .ok (.aload_n 0, 1) := by decide +kernel
theorem dX3_readCondition_1 : decode prog_5_method_4_code 1 = .ok (.iconst 0, 1) := by decide +kernel
theorem dX3_readCondition_2 : decode prog_5_method_4_code 2 = .ok (.putfield 22, 3) := by decide +kernel
theorem dX3_readCondition_5 : decode prog_5_method_4_code 5 = .ok (.aload_n 0, 1) := by decide +kernel
theorem dX3_readCondition_6 : decode prog_5_method_4_code 6 = .ok (.iconst 0, 1) := by decide +kernel
theorem dX3_readCondition_7 : decode prog_5_method_4_code 7 = .ok (.putfield 26, 3) := by decide +kernel
theorem dX3_readCondition_10 : decode prog_5_method_4_code 10 = .ok (.iconst 1, 1) := by decide +kernel
theorem dX3_readCondition_11 : decode prog_5_method_4_code 11 = .ok (.istore_n 2, 1) := by decide +kernel
theorem dX3_readCondition_12 : decode prog_5_method_4_code 12 = .ok (.iconst 0, 1) := by decide +kernel
theorem dX3_readCondition_13 : decode prog_5_method_4_code 13 = .ok (.istore_n 3, 1) := by decide +kernel
theorem dX3_readCondition_14 : decode prog_5_method_4_code 14 = .ok (.iload_n 2, 1) := by decide +kernel
theorem dX3_readCondition_15 : decode prog_5_method_4_code 15 = .ok (.ifCond .eq 50, 3) := by decide +kernel
theorem dX3_readCondition_18 : decode prog_5_method_4_code 18 = .ok (.iload_n 3, 1) := by decide +kernel
theorem dX3_readCondition_19 : decode prog_5_method_4_code 19 = .ok (.sipush 400, 3) := by decide +kernel
theorem dX3_readCondition_22 : decode prog_5_method_4_code 22 = .ok (.if_icmp .ge 43, 3) := by decide +kernel
theorem dX3_readCondition_25 : decode prog_5_method_4_code 25 = .ok (.aload_n 0, 1) := by decide +kernel
theorem dX3_readCondition_26 : decode prog_5_method_4_code 26 = .ok (.aload_n 1, 1) := by decide +kernel
theorem dX3_readCondition_27 : decode prog_5_method_4_code 27 = .ok (.invokevirtual 89, 3) := by decide +kernel
theorem dX3_readCondition_30 : decode prog_5_method_4_code 30 = .ok (.aload_n 0, 1) := by decide +kernel
theorem dX3_readCondition_31 : decode prog_5_method_4_code 31 = .ok (.aload_n 1, 1) := by decide +kernel
theorem dX3_readCondition_32 : decode prog_5_method_4_code 32 = .ok (.invokevirtual 92, 3) := by decide +kernel
theorem dX3_readCondition_35 : decode prog_5_method_4_code 35 = .ok (.aload_n 0, 1) := by decide +kernel
theorem dX3_readCondition_36 : decode prog_5_method_4_code 36 = .ok (.getfield 12, 3) := by decide +kernel
theorem dX3_readCondition_39 : decode prog_5_method_4_code 39 = .ok (.invokevirtual 49, 3) := by decide +kernel
theorem dX3_readCondition_42 : decode prog_5_method_4_code 42 = .ok (.ifCond .eq 15, 3) := by decide +kernel
theorem dX3_readCondition_45 : decode prog_5_method_4_code 45 = .ok (.aload_n 0, 1) := by decide +kernel
theorem dX3_readCondition_46 : decode prog_5_method_4_code 46 = .ok (.aload_n 1, 1) := by decide +kernel
theorem dX3_readCondition_47 : decode prog_5_method_4_code 47 = .ok (.invokevirtual 95, 3) := by decide +kernel
theorem dX3_readCondition_50 : decode prog_5_method_4_code 50 = .ok (.ifCond .eq 7, 3) := by decide +kernel
theorem dX3_readCondition_53 : decode prog_5_method_4_code 53 = .ok (.iconst 1, 1) := by decide +kernel
theorem dX3_readCondition_54 : decode prog_5_method_4_code 54 = .ok (.goto 4, 3) := by decide +kernel
theorem dX3_readCondition_57 : decode prog_5_method_4_code 57 = .ok (.iconst 0, 1) := by decide +kernel
theorem dX3_readCondition_58 : decode prog_5_method_4_code 58 = .ok (.istore_n 2, 1) := by decide +kernel
theorem dX3_readCondition_59 : decode prog_5_method_4_code 59 = .ok (.iinc 3 1, 3) := by decide +kernel
theorem dX3_readCondition_62 : decode prog_5_method_4_code 62 = .ok (.goto (-48), 3) := by decide +kernel
theorem dX3_readCondition_65 : decode prog_5_method_4_code 65 = .ok (.aload_n 0, 1) := by decide +kernel
theorem dX3_readCondition_66 : decode prog_5_method_4_code 66 = .ok (.aload_n 1, 1) := by decide +kernel
theorem dX3_readCondition_67 : decode prog_5_method_4_code 67 = .ok (.bipush (-15), 2) := by decide +kernel
theorem dX3_readCondition_69 : decode prog_5_method_4_code 69 = .ok (.invokevirtual 99, 3) := by decide +kernel
theorem dX3_readCondition_72 : decode prog_5_method_4_code 72 = .ok (.aload_n 0, 1) := by decide +kernel
theorem dX3_readCondition_73 : decode prog_5_method_4_code 73 = .ok (.getfield 22, 3) := by decide +kernel
theorem dX3_readCondition_76 : decode prog_5_method_4_code 76 = .ok (.ifCond .le 10, 3) := by decide +kernel
theorem dX3_readCondition_79 : decode prog_5_method_4_code 79 = .ok (.aload_n 0, 1) := by decide +kernel
theorem dX3_readCondition_80 : decode prog_5_method_4_code 80 = .ok (.getfield 12, 3) := by decide +kernel
theorem dX3_readCondition_83 : decode prog_5_method_4_code 83 = .ok (.invokevirtual 42, 3) := by decide +kernel
theorem dX3_readCondition_86 : decode prog_5_method_4_code 86 = .ok (.return_, 1) := by decide +kernel
theorem dX3_readAtom_0 : decode prog_5_method_5_code 0 = .ok (.iconst 0, 1) := by decide +kernel
theorem dX3_readAtom_1 : decode prog_5_method_5_code 1 = .ok (.istore_n 2, 1) := by decide +kernel
theorem dX3_readAtom_2 : decode prog_5_method_5_code 2 = .ok (.iload_n 2, 1) := by decide +kernel
theorem dX3_readAtom_3 : decode prog_5_method_5_code 3 = .ok (.bipush 6, 2) := by decide +kernel
theorem dX3_readAtom_5 : decode prog_5_method_5_code 5 = .ok (.if_icmp .gt 90, 3) := by decide +kernel
theorem dX3_readAtom_8 : decode prog_5_method_5_code 8 = .ok (.aload_n 0, 1) := by decide +kernel
theorem dX3_readAtom_9 : decode prog_5_method_5_code 9 = .ok (.getfield 12, 3) := by decide +kernel
theorem dX3_readAtom_12 : decode prog_5_method_5_code 12 = .ok (.ldc 103, 2) := by decide +kernel
theorem dX3_readAtom_14 : decode prog_5_method_5_code 14 = .ok (.invokevirtual 63, 3) := by decide +kernel
theorem dX3_readAtom_17 : decode prog_5_method_5_code 17 = .ok (.ifCond .ne 15, 3) := by decide +kernel
theorem dX3_readAtom_20 : decode prog_5_method_5_code 20 = .ok (.aload_n 0, 1) := by decide +kernel
theorem dX3_readAtom_21 : decode prog_5_method_5_code 21 = .ok (.getfield 12, 3) := by decide +kernel
theorem dX3_readAtom_24 : decode prog_5_method_5_code 24 = .ok (.ldc 105, 2) := by decide +kernel
theorem dX3_readAtom_26 : decode prog_5_method_5_code 26 = .ok (.invokevirtual 63, 3) := by decide +kernel
theorem dX3_readAtom_29 : decode prog_5_method_5_code 29 = .ok (.ifCond .eq 66, 3) := by decide +kernel
theorem dX3_readAtom_32 : decode prog_5_method_5_code 32 = .ok (.aload_n 0, 1) := by decide +kernel
theorem dX3_readAtom_33 : decode prog_5_method_5_code 33 = .ok (.getfield 26, 3) := by decide +kernel
theorem dX3_readAtom_36 : decode prog_5_method_5_code 36 = .ok (.bipush 6, 2) := by decide +kernel
theorem dX3_readAtom_38 : decode prog_5_method_5_code 38 = .ok (.if_icmp .lt 11, 3) := by decide +kernel
theorem dX3_readAtom_41 : decode prog_5_method_5_code 41 = .ok (.aload_n 0, 1) := by decide +kernel
theorem dX3_readAtom_42 : decode prog_5_method_5_code 42 = .ok (.getfield 12, 3) := by decide +kernel
theorem dX3_readAtom_45 : decode prog_5_method_5_code 45 = .ok (.invokevirtual 42, 3) := by decide +kernel
theorem dX3_readAtom_48 : decode prog_5_method_5_code 48 = .ok (.return_, 1) := by decide +kernel
theorem dX3_readAtom_49 : decode prog_5_method_5_code 49 = .ok (.aload_n 0, 1) := by decide +kernel
theorem dX3_readAtom_50 : decode prog_5_method_5_code 50 = .ok (.aload_n 0, 1) := by decide +kernel
theorem dX3_readAtom_51 : decode prog_5_method_5_code 51 = .ok (.getfield 12, 3) := by decide +kernel
theorem dX3_readAtom_54 : decode prog_5_method_5_code 54 = .ok (.ldc 105, 2) := by decide +kernel
theorem dX3_readAtom_56 : decode prog_5_method_5_code 56 = .ok (.invokevirtual 63, 3) := by decide +kernel
theorem dX3_readAtom_59 : decode prog_5_method_5_code 59 = .ok (.ifCond .eq 8, 3) := by decide +kernel
theorem dX3_readAtom_62 : decode prog_5_method_5_code 62 = .ok (.bipush (-16), 2) := by decide +kernel
theorem dX3_readAtom_64 : decode prog_5_method_5_code 64 = .ok (.goto 5, 3) := by decide +kernel
theorem dX3_readAtom_67 : decode prog_5_method_5_code 67 = .ok (.bipush (-13), 2) := by decide +kernel
theorem dX3_readAtom_69 : decode prog_5_method_5_code 69 = .ok (.invokevirtual 107, 3) := by decide +kernel
theorem dX3_readAtom_72 : decode prog_5_method_5_code 72 = .ok (.aload_n 0, 1) := by decide +kernel
theorem dX3_readAtom_73 : decode prog_5_method_5_code 73 = .ok (.dup, 1) := by decide +kernel
theorem dX3_readAtom_74 : decode prog_5_method_5_code 74 = .ok (.getfield 26, 3) := by decide +kernel
theorem dX3_readAtom_77 : decode prog_5_method_5_code 77 = .ok (.iconst 1, 1) := by decide +kernel
theorem dX3_readAtom_78 : decode prog_5_method_5_code 78 = .ok (.iadd, 1) := by decide +kernel
theorem dX3_readAtom_79 : decode prog_5_method_5_code 79 = .ok (.putfield 26, 3) := by decide +kernel
theorem dX3_readAtom_82 : decode prog_5_method_5_code 82 = .ok (.aload_n 0, 1) := by decide +kernel
theorem dX3_readAtom_83 : decode prog_5_method_5_code 83 = .ok (.getfield 12, 3) := by decide +kernel
theorem dX3_readAtom_86 : decode prog_5_method_5_code 86 = .ok (.invokevirtual 70, 3) := by decide +kernel
theorem dX3_readAtom_89 : decode prog_5_method_5_code 89 = .ok (.iinc 2 1, 3) := by decide +kernel
theorem dX3_readAtom_92 : decode prog_5_method_5_code 92 = .ok (.goto (-90), 3) := by decide +kernel
theorem dX3_readAtom_95 : decode prog_5_method_5_code 95 = .ok (.aload_n 0, 1) := by decide +kernel
theorem dX3_readAtom_96 : decode prog_5_method_5_code 96 = .ok (.getfield 12, 3) := by decide +kernel
theorem dX3_readAtom_99 : decode prog_5_method_5_code 99 = .ok (.ldc 111, 2) := by decide +kernel
theorem dX3_readAtom_101 : decode prog_5_method_5_code 101 = .ok (.invokevirtual 54, 3) := by decide +kernel
theorem dX3_readAtom_104 : decode prog_5_method_5_code 104 = .ok (.ifCond .eq 12, 3) := by decide +kernel
theorem dX3_readAtom_107 : decode prog_5_method_5_code 107 = .ok (.aload_n 1, 1) := by decide +kernel
theorem dX3_readAtom_108 : decode prog_5_method_5_code 108 = .ok (.bipush (-8), 2) := by decide +kernel
theorem dX3_readAtom_110 : decode prog_5_method_5_code 110 = .ok (.invokevirtual 113, 3) := by decide +kernel
theorem dX3_readAtom_113 : decode prog_5_method_5_code 113 = .ok (.goto 86, 3) := by decide +kernel
theorem dX3_readAtom_116 : decode prog_5_method_5_code 116 = .ok (.aload_n 0, 1) := by decide +kernel
theorem dX3_readAtom_117 : decode prog_5_method_5_code 117 = .ok (.getfield 12, 3) := by decide +kernel
theorem dX3_readAtom_120 : decode prog_5_method_5_code 120 = .ok (.ldc 116, 2) := by decide +kernel
theorem dX3_readAtom_122 : decode prog_5_method_5_code 122 = .ok (.invokevirtual 54, 3) := by decide +kernel
theorem dX3_readAtom_125 : decode prog_5_method_5_code 125 = .ok (.ifCond .eq 12, 3) := by decide +kernel
theorem dX3_readAtom_128 : decode prog_5_method_5_code 128 = .ok (.aload_n 1, 1) := by decide +kernel
theorem dX3_readAtom_129 : decode prog_5_method_5_code 129 = .ok (.bipush (-9), 2) := by decide +kernel
theorem dX3_readAtom_131 : decode prog_5_method_5_code 131 = .ok (.invokevirtual 113, 3) := by decide +kernel
theorem dX3_readAtom_134 : decode prog_5_method_5_code 134 = .ok (.goto 65, 3) := by decide +kernel
theorem dX3_readAtom_137 : decode prog_5_method_5_code 137 = .ok (.aload_n 0, 1) := by decide +kernel
theorem dX3_readAtom_138 : decode prog_5_method_5_code 138 = .ok (.aload_n 1, 1) := by decide +kernel
theorem dX3_readAtom_139 : decode prog_5_method_5_code 139 = .ok (.invokevirtual 118, 3) := by decide +kernel
theorem dX3_readAtom_142 : decode prog_5_method_5_code 142 = .ok (.aload_n 0, 1) := by decide +kernel
theorem dX3_readAtom_143 : decode prog_5_method_5_code 143 = .ok (.getfield 12, 3) := by decide +kernel
theorem dX3_readAtom_146 : decode prog_5_method_5_code 146 = .ok (.ldc 121, 2) := by decide +kernel
theorem dX3_readAtom_148 : decode prog_5_method_5_code 148 = .ok (.invokevirtual 63, 3) := by decide +kernel
theorem dX3_readAtom_151 : decode prog_5_method_5_code 151 = .ok (.ifCond .eq 8, 3) := by decide +kernel
theorem dX3_readAtom_154 : decode prog_5_method_5_code 154 = .ok (.bipush (-11), 2) := by decide +kernel
theorem dX3_readAtom_156 : decode prog_5_method_5_code 156 = .ok (.goto 5, 3) := by decide +kernel
theorem dX3_readAtom_159 : decode prog_5_method_5_code 159 = .ok (.bipush (-12), 2) := by decide +kernel
theorem dX3_readAtom_161 : decode prog_5_method_5_code 161 = .ok (.istore_n 2, 1) := by decide +kernel
theorem dX3_readAtom_162 : decode prog_5_method_5_code 162 = .ok (.aload_n 0, 1) := by decide +kernel
theorem dX3_readAtom_163 : decode prog_5_method_5_code 163 = .ok (.getfield 12, 3) := by decide +kernel
theorem dX3_readAtom_166 : decode prog_5_method_5_code 166 = .ok (.ldc 121, 2) := by decide +kernel
theorem dX3_readAtom_168 : decode prog_5_method_5_code 168 = .ok (.invokevirtual 54, 3) := by decide +kernel
theorem dX3_readAtom_171 : decode prog_5_method_5_code 171 = .ok (.ifCond .ne 12, 3) := by decide +kernel
theorem dX3_readAtom_174 : decode prog_5_method_5_code 174 = .ok (.aload_n 0, 1) := by decide +kernel
theorem dX3_readAtom_175 : decode prog_5_method_5_code 175 = .ok (.getfield 12, 3) := by decide +kernel
theorem dX3_readAtom_178 : decode prog_5_method_5_code 178 = .ok (.ldc 123, 2) := by decide +kernel
theorem dX3_readAtom_180 : decode prog_5_method_5_code 180 = .ok (.invokevirtual 125, 3) := by decide +kernel
theorem dX3_readAtom_183 : decode prog_5_method_5_code 183 = .ok (.aload_n 1, 1) := by decide +kernel
theorem dX3_readAtom_184 : decode prog_5_method_5_code 184 = .ok (.bipush (-10), 2) := by decide +kernel
theorem dX3_readAtom_186 : decode prog_5_method_5_code 186 = .ok (.invokevirtual 113, 3) := by decide +kernel
theorem dX3_readAtom_189 : decode prog_5_method_5_code 189 = .ok (.aload_n 0, 1) := by decide +kernel
theorem dX3_readAtom_190 : decode prog_5_method_5_code 190 = .ok (.aload_n 1, 1) := by decide +kernel
theorem dX3_readAtom_191 : decode prog_5_method_5_code 191 = .ok (.invokevirtual 118, 3) := by decide +kernel
theorem dX3_readAtom_194 : decode prog_5_method_5_code 194 = .ok (.aload_n 1, 1) := by decide +kernel
theorem dX3_readAtom_195 : decode prog_5_method_5_code 195 = .ok (.iload_n 2, 1) := by decide +kernel
theorem dX3_readAtom_196 : decode prog_5_method_5_code 196 = .ok (.invokevirtual 113, 3) := by decide +kernel
theorem dX3_readAtom_199 : decode prog_5_method_5_code 199 = .ok (.return_, 1) := by decide +kernel
theorem dX3_hold_0 : decode prog_5_method_10_code 0 = .ok (.aload_n 0, 1) := by decide +kernel
theorem dX3_hold_1 : decode prog_5_method_10_code 1 = .ok (.getfield 18, 3) := by decide +kernel
theorem dX3_hold_4 : decode prog_5_method_10_code 4 = .ok (.aload_n 0, 1) := by decide +kernel
theorem dX3_hold_5 : decode prog_5_method_10_code 5 = .ok (.getfield 22, 3) := by decide +kernel
theorem dX3_hold_8 : decode prog_5_method_10_code 8 = .ok (.iload_n 1, 1) := by decide +kernel
theorem dX3_hold_9 : decode prog_5_method_10_code 9 = .ok (.invokestatic 155, 3) := by decide +kernel
theorem dX3_hold_12 : decode prog_5_method_10_code 12 = .ok (.aload_n 0, 1) := by decide +kernel
theorem dX3_hold_13 : decode prog_5_method_10_code 13 = .ok (.dup, 1) := by decide +kernel
theorem dX3_hold_14 : decode prog_5_method_10_code 14 = .ok (.getfield 22, 3) := by decide +kernel
theorem dX3_hold_17 : decode prog_5_method_10_code 17 = .ok (.iconst 1, 1) := by decide +kernel
theorem dX3_hold_18 : decode prog_5_method_10_code 18 = .ok (.iadd, 1) := by decide +kernel
theorem dX3_hold_19 : decode prog_5_method_10_code 19 = .ok (.putfield 22, 3) := by decide +kernel
theorem dX3_hold_22 : decode prog_5_method_10_code 22 = .ok (.return_, 1) := by decide +kernel
theorem dX2_emit_0 : decode prog_4_method_6_code 0 = .ok (.aload_n 0, 1) := by decide +kernel
theorem dX2_emit_1 : decode prog_4_method_6_code 1 = .ok (.getfield 24, 3) := by decide +kernel
theorem dX2_emit_4 : decode prog_4_method_6_code 4 = .ok (.ifCond .lt 35, 3) := by decide +kernel
theorem dX2_emit_7 : decode prog_4_method_6_code 7 = .ok (.aload_n 0, 1) := by decide +kernel
theorem dX2_emit_8 : decode prog_4_method_6_code 8 = .ok (.getfield 24, 3) := by decide +kernel
theorem dX2_emit_11 : decode prog_4_method_6_code 11 = .ok (.aload_n 0, 1) := by decide +kernel
theorem dX2_emit_12 : decode prog_4_method_6_code 12 = .ok (.getfield 21, 3) := by decide +kernel
theorem dX2_emit_15 : decode prog_4_method_6_code 15 = .ok (.arraylength, 1) := by decide +kernel
theorem dX2_emit_16 : decode prog_4_method_6_code 16 = .ok (.if_icmp .ge 23, 3) := by decide +kernel
theorem dX2_emit_19 : decode prog_4_method_6_code 19 = .ok (.aload_n 0, 1) := by decide +kernel
theorem dX2_emit_20 : decode prog_4_method_6_code 20 = .ok (.getfield 21, 3) := by decide +kernel
theorem dX2_emit_23 : decode prog_4_method_6_code 23 = .ok (.aload_n 0, 1) := by decide +kernel
theorem dX2_emit_24 : decode prog_4_method_6_code 24 = .ok (.getfield 24, 3) := by decide +kernel
theorem dX2_emit_27 : decode prog_4_method_6_code 27 = .ok (.iload_n 1, 1) := by decide +kernel
theorem dX2_emit_28 : decode prog_4_method_6_code 28 = .ok (.iastore, 1) := by decide +kernel
theorem dX2_emit_29 : decode prog_4_method_6_code 29 = .ok (.aload_n 0, 1) := by decide +kernel
theorem dX2_emit_30 : decode prog_4_method_6_code 30 = .ok (.dup, 1) := by decide +kernel
theorem dX2_emit_31 : decode prog_4_method_6_code 31 = .ok (.getfield 24, 3) := by decide +kernel
theorem dX2_emit_34 : decode prog_4_method_6_code 34 = .ok (.iconst 1, 1) := by decide +kernel
theorem dX2_emit_35 : decode prog_4_method_6_code 35 = .ok (.iadd, 1) := by decide +kernel
theorem dX2_emit_36 : decode prog_4_method_6_code 36 = .ok (.putfield 24, 3) := by decide +kernel
theorem dX2_emit_39 : decode prog_4_method_6_code 39 = .ok (.return_, 1) := by decide +kernel
theorem dX3_readSum_0 : decode prog_5_method_6_code 0 = .ok (.aload_n 0, 1) := by decide +kernel
theorem dX3_readSum_1 : decode prog_5_method_6_code 1 = .ok (.getfield 12, 3) := by decide +kernel
theorem dX3_readSum_4 : decode prog_5_method_6_code 4 = .ok (.invokevirtual 49, 3) := by decide +kernel
theorem dX3_readSum_7 : decode prog_5_method_6_code 7 = .ok (.istore_n 2, 1) := by decide +kernel
theorem dX3_readSum_8 : decode prog_5_method_6_code 8 = .ok (.iconst 0, 1) := by decide +kernel
theorem dX3_readSum_9 : decode prog_5_method_6_code 9 = .ok (.istore_n 3, 1) := by decide +kernel
theorem dX3_readSum_10 : decode prog_5_method_6_code 10 = .ok (.iload_n 2, 1) := by decide +kernel
theorem dX3_readSum_11 : decode prog_5_method_6_code 11 = .ok (.ifCond .eq 86, 3) := by decide +kernel
theorem dX3_readSum_14 : decode prog_5_method_6_code 14 = .ok (.iload_n 3, 1) := by decide +kernel
theorem dX3_readSum_15 : decode prog_5_method_6_code 15 = .ok (.sipush 400, 3) := by decide +kernel
theorem dX3_readSum_18 : decode prog_5_method_6_code 18 = .ok (.if_icmp .ge 79, 3) := by decide +kernel
theorem dX3_readSum_21 : decode prog_5_method_6_code 21 = .ok (.aload_n 0, 1) := by decide +kernel
theorem dX3_readSum_22 : decode prog_5_method_6_code 22 = .ok (.invokevirtual 129, 3) := by decide +kernel
theorem dX3_readSum_25 : decode prog_5_method_6_code 25 = .ok (.istore 4, 2) := by decide +kernel
theorem dX3_readSum_27 : decode prog_5_method_6_code 27 = .ok (.iload 4, 2) := by decide +kernel
theorem dX3_readSum_29 : decode prog_5_method_6_code 29 = .ok (.ifCond .ne 21, 3) := by decide +kernel
theorem dX3_readSum_32 : decode prog_5_method_6_code 32 = .ok (.aload_n 1, 1) := by decide +kernel
theorem dX3_readSum_33 : decode prog_5_method_6_code 33 = .ok (.aload_n 0, 1) := by decide +kernel
theorem dX3_readSum_34 : decode prog_5_method_6_code 34 = .ok (.getfield 12, 3) := by decide +kernel
theorem dX3_readSum_37 : decode prog_5_method_6_code 37 = .ok (.iconst 0, 1) := by decide +kernel
theorem dX3_readSum_38 : decode prog_5_method_6_code 38 = .ok (.sipush 999, 3) := by decide +kernel
theorem dX3_readSum_41 : decode prog_5_method_6_code 41 = .ok (.invokevirtual 73, 3) := by decide +kernel
theorem dX3_readSum_44 : decode prog_5_method_6_code 44 = .ok (.invokevirtual 113, 3) := by decide +kernel
theorem dX3_readSum_47 : decode prog_5_method_6_code 47 = .ok (.goto 16, 3) := by decide +kernel
theorem dX3_readSum_50 : decode prog_5_method_6_code 50 = .ok (.aload_n 1, 1) := by decide +kernel
theorem dX3_readSum_51 : decode prog_5_method_6_code 51 = .ok (.iload 4, 2) := by decide +kernel
theorem dX3_readSum_53 : decode prog_5_method_6_code 53 = .ok (.invokevirtual 113, 3) := by decide +kernel
theorem dX3_readSum_56 : decode prog_5_method_6_code 56 = .ok (.aload_n 0, 1) := by decide +kernel
theorem dX3_readSum_57 : decode prog_5_method_6_code 57 = .ok (.getfield 12, 3) := by decide +kernel
theorem dX3_readSum_60 : decode prog_5_method_6_code 60 = .ok (.invokevirtual 70, 3) := by decide +kernel
theorem dX3_readSum_63 : decode prog_5_method_6_code 63 = .ok (.aload_n 0, 1) := by decide +kernel
theorem dX3_readSum_64 : decode prog_5_method_6_code 64 = .ok (.getfield 12, 3) := by decide +kernel
theorem dX3_readSum_67 : decode prog_5_method_6_code 67 = .ok (.invokevirtual 49, 3) := by decide +kernel
theorem dX3_readSum_70 : decode prog_5_method_6_code 70 = .ok (.ifCond .eq 19, 3) := by decide +kernel
theorem dX3_readSum_73 : decode prog_5_method_6_code 73 = .ok (.aload_n 0, 1) := by decide +kernel
theorem dX3_readSum_74 : decode prog_5_method_6_code 74 = .ok (.getfield 12, 3) := by decide +kernel
theorem dX3_readSum_77 : decode prog_5_method_6_code 77 = .ok (.ldc 133, 2) := by decide +kernel
theorem dX3_readSum_79 : decode prog_5_method_6_code 79 = .ok (.invokevirtual 54, 3) := by decide +kernel
theorem dX3_readSum_82 : decode prog_5_method_6_code 82 = .ok (.ifCond .eq 7, 3) := by decide +kernel
theorem dX3_readSum_85 : decode prog_5_method_6_code 85 = .ok (.iconst 1, 1) := by decide +kernel
theorem dX3_readSum_86 : decode prog_5_method_6_code 86 = .ok (.goto 4, 3) := by decide +kernel
theorem dX3_readSum_89 : decode prog_5_method_6_code 89 = .ok (.iconst 0, 1) := by decide +kernel
theorem dX3_readSum_90 : decode prog_5_method_6_code 90 = .ok (.istore_n 2, 1) := by decide +kernel
theorem dX3_readSum_91 : decode prog_5_method_6_code 91 = .ok (.iinc 3 1, 3) := by decide +kernel
theorem dX3_readSum_94 : decode prog_5_method_6_code 94 = .ok (.goto (-84), 3) := by decide +kernel
theorem dX3_readSum_97 : decode prog_5_method_6_code 97 = .ok (.return_, 1) := by decide +kernel
theorem dX3_partCode_0 : decode prog_5_method_7_code 0 = .ok (.aload_n 0, 1) := by decide +kernel
theorem dX3_partCode_1 : decode prog_5_method_7_code 1 = .ok (.getfield 12, 3) := by decide +kernel
theorem dX3_partCode_4 : decode prog_5_method_7_code 4 = .ok (.ldc 135, 2) := by decide +kernel
theorem dX3_partCode_6 : decode prog_5_method_7_code 6 = .ok (.invokevirtual 63, 3) := by decide +kernel
theorem dX3_partCode_9 : decode prog_5_method_7_code 9 = .ok (.ifCond .eq 7, 3) := by decide +kernel
theorem dX3_partCode_12 : decode prog_5_method_7_code 12 = .ok (.iconst (-1), 1) := by decide +kernel
theorem dX3_partCode_13 : decode prog_5_method_7_code 13 = .ok (.goto 106, 3) := by decide +kernel
theorem dX3_partCode_16 : decode prog_5_method_7_code 16 = .ok (.aload_n 0, 1) := by decide +kernel
theorem dX3_partCode_17 : decode prog_5_method_7_code 17 = .ok (.getfield 12, 3) := by decide +kernel
theorem dX3_partCode_20 : decode prog_5_method_7_code 20 = .ok (.ldc 137, 2) := by decide +kernel
theorem dX3_partCode_22 : decode prog_5_method_7_code 22 = .ok (.invokevirtual 63, 3) := by decide +kernel
theorem dX3_partCode_25 : decode prog_5_method_7_code 25 = .ok (.ifCond .eq 8, 3) := by decide +kernel
theorem dX3_partCode_28 : decode prog_5_method_7_code 28 = .ok (.bipush (-2), 2) := by decide +kernel
theorem dX3_partCode_30 : decode prog_5_method_7_code 30 = .ok (.goto 89, 3) := by decide +kernel
theorem dX3_partCode_33 : decode prog_5_method_7_code 33 = .ok (.aload_n 0, 1) := by decide +kernel
theorem dX3_partCode_34 : decode prog_5_method_7_code 34 = .ok (.getfield 12, 3) := by decide +kernel
theorem dX3_partCode_37 : decode prog_5_method_7_code 37 = .ok (.ldc 139, 2) := by decide +kernel
theorem dX3_partCode_39 : decode prog_5_method_7_code 39 = .ok (.invokevirtual 63, 3) := by decide +kernel
theorem dX3_partCode_42 : decode prog_5_method_7_code 42 = .ok (.ifCond .eq 8, 3) := by decide +kernel
theorem dX3_partCode_45 : decode prog_5_method_7_code 45 = .ok (.bipush (-3), 2) := by decide +kernel
theorem dX3_partCode_47 : decode prog_5_method_7_code 47 = .ok (.goto 72, 3) := by decide +kernel
theorem dX3_partCode_50 : decode prog_5_method_7_code 50 = .ok (.aload_n 0, 1) := by decide +kernel
theorem dX3_partCode_51 : decode prog_5_method_7_code 51 = .ok (.getfield 12, 3) := by decide +kernel
theorem dX3_partCode_54 : decode prog_5_method_7_code 54 = .ok (.ldc 141, 2) := by decide +kernel
theorem dX3_partCode_56 : decode prog_5_method_7_code 56 = .ok (.invokevirtual 63, 3) := by decide +kernel
theorem dX3_partCode_59 : decode prog_5_method_7_code 59 = .ok (.ifCond .eq 8, 3) := by decide +kernel
theorem dX3_partCode_62 : decode prog_5_method_7_code 62 = .ok (.bipush (-4), 2) := by decide +kernel
theorem dX3_partCode_64 : decode prog_5_method_7_code 64 = .ok (.goto 55, 3) := by decide +kernel
theorem dX3_partCode_67 : decode prog_5_method_7_code 67 = .ok (.aload_n 0, 1) := by decide +kernel
theorem dX3_partCode_68 : decode prog_5_method_7_code 68 = .ok (.getfield 12, 3) := by decide +kernel
theorem dX3_partCode_71 : decode prog_5_method_7_code 71 = .ok (.ldc 143, 2) := by decide +kernel
theorem dX3_partCode_73 : decode prog_5_method_7_code 73 = .ok (.invokevirtual 63, 3) := by decide +kernel
theorem dX3_partCode_76 : decode prog_5_method_7_code 76 = .ok (.ifCond .eq 8, 3) := by decide +kernel
theorem dX3_partCode_79 : decode prog_5_method_7_code 79 = .ok (.bipush (-5), 2) := by decide +kernel
theorem dX3_partCode_81 : decode prog_5_method_7_code 81 = .ok (.goto 38, 3) := by decide +kernel
theorem dX3_partCode_84 : decode prog_5_method_7_code 84 = .ok (.aload_n 0, 1) := by decide +kernel
theorem dX3_partCode_85 : decode prog_5_method_7_code 85 = .ok (.getfield 12, 3) := by decide +kernel
theorem dX3_partCode_88 : decode prog_5_method_7_code 88 = .ok (.ldc 145, 2) := by decide +kernel
theorem dX3_partCode_90 : decode prog_5_method_7_code 90 = .ok (.invokevirtual 63, 3) := by decide +kernel
theorem dX3_partCode_93 : decode prog_5_method_7_code 93 = .ok (.ifCond .eq 8, 3) := by decide +kernel
theorem dX3_partCode_96 : decode prog_5_method_7_code 96 = .ok (.bipush (-6), 2) := by decide +kernel
theorem dX3_partCode_98 : decode prog_5_method_7_code 98 = .ok (.goto 21, 3) := by decide +kernel
theorem dX3_partCode_101 : decode prog_5_method_7_code 101 = .ok (.aload_n 0, 1) := by decide +kernel
theorem dX3_partCode_102 : decode prog_5_method_7_code 102 = .ok (.getfield 12, 3) := by decide +kernel
theorem dX3_partCode_105 : decode prog_5_method_7_code 105 = .ok (.ldc 147, 2) := by decide +kernel
theorem dX3_partCode_107 : decode prog_5_method_7_code 107 = .ok (.invokevirtual 63, 3) := by decide +kernel
theorem dX3_partCode_110 : decode prog_5_method_7_code 110 = .ok (.ifCond .eq 8, 3) := by decide +kernel
theorem dX3_partCode_113 : decode prog_5_method_7_code 113 = .ok (.bipush (-7), 2) := by decide +kernel
theorem dX3_partCode_115 : decode prog_5_method_7_code 115 = .ok (.goto 4, 3) := by decide +kernel
theorem dX3_partCode_118 : decode prog_5_method_7_code 118 = .ok (.iconst 0, 1) := by decide +kernel
theorem dX3_partCode_119 : decode prog_5_method_7_code 119 = .ok (.ireturn, 1) := by decide +kernel
theorem dX3_closeAtom_0 : decode prog_5_method_8_code 0 = .ok (.aload_n 0, 1) := by decide +kernel
theorem dX3_closeAtom_1 : decode prog_5_method_8_code 1 = .ok (.aload_n 1, 1) := by decide +kernel
theorem dX3_closeAtom_2 : decode prog_5_method_8_code 2 = .ok (.bipush (-13), 2) := by decide +kernel
theorem dX3_closeAtom_4 : decode prog_5_method_8_code 4 = .ok (.invokevirtual 99, 3) := by decide +kernel
theorem dX3_closeAtom_7 : decode prog_5_method_8_code 7 = .ok (.iconst 0, 1) := by decide +kernel
theorem dX3_closeAtom_8 : decode prog_5_method_8_code 8 = .ok (.istore_n 2, 1) := by decide +kernel
theorem dX3_closeAtom_9 : decode prog_5_method_8_code 9 = .ok (.iload_n 2, 1) := by decide +kernel
theorem dX3_closeAtom_10 : decode prog_5_method_8_code 10 = .ok (.bipush 6, 2) := by decide +kernel
theorem dX3_closeAtom_12 : decode prog_5_method_8_code 12 = .ok (.if_icmp .gt 77, 3) := by decide +kernel
theorem dX3_closeAtom_15 : decode prog_5_method_8_code 15 = .ok (.aload_n 0, 1) := by decide +kernel
theorem dX3_closeAtom_16 : decode prog_5_method_8_code 16 = .ok (.getfield 12, 3) := by decide +kernel
theorem dX3_closeAtom_19 : decode prog_5_method_8_code 19 = .ok (.ldc 149, 2) := by decide +kernel
theorem dX3_closeAtom_21 : decode prog_5_method_8_code 21 = .ok (.invokevirtual 63, 3) := by decide +kernel
theorem dX3_closeAtom_24 : decode prog_5_method_8_code 24 = .ok (.ifCond .eq 65, 3) := by decide +kernel
theorem dX3_closeAtom_27 : decode prog_5_method_8_code 27 = .ok (.aload_n 0, 1) := by decide +kernel
theorem dX3_closeAtom_28 : decode prog_5_method_8_code 28 = .ok (.aload_n 1, 1) := by decide +kernel
theorem dX3_closeAtom_29 : decode prog_5_method_8_code 29 = .ok (.bipush (-15), 2) := by decide +kernel
theorem dX3_closeAtom_31 : decode prog_5_method_8_code 31 = .ok (.invokevirtual 99, 3) := by decide +kernel
theorem dX3_closeAtom_34 : decode prog_5_method_8_code 34 = .ok (.aload_n 0, 1) := by decide +kernel
theorem dX3_closeAtom_35 : decode prog_5_method_8_code 35 = .ok (.getfield 22, 3) := by decide +kernel
theorem dX3_closeAtom_38 : decode prog_5_method_8_code 38 = .ok (.ifCond .ne 11, 3) := by decide +kernel
theorem dX3_closeAtom_41 : decode prog_5_method_8_code 41 = .ok (.aload_n 0, 1) := by decide +kernel
theorem dX3_closeAtom_42 : decode prog_5_method_8_code 42 = .ok (.getfield 12, 3) := by decide +kernel
theorem dX3_closeAtom_45 : decode prog_5_method_8_code 45 = .ok (.invokevirtual 42, 3) := by decide +kernel
theorem dX3_closeAtom_48 : decode prog_5_method_8_code 48 = .ok (.return_, 1) := by decide +kernel
theorem dX3_closeAtom_49 : decode prog_5_method_8_code 49 = .ok (.aload_n 0, 1) := by decide +kernel
theorem dX3_closeAtom_50 : decode prog_5_method_8_code 50 = .ok (.dup, 1) := by decide +kernel
theorem dX3_closeAtom_51 : decode prog_5_method_8_code 51 = .ok (.getfield 22, 3) := by decide +kernel
theorem dX3_closeAtom_54 : decode prog_5_method_8_code 54 = .ok (.iconst 1, 1) := by decide +kernel
theorem dX3_closeAtom_55 : decode prog_5_method_8_code 55 = .ok (.isub, 1) := by decide +kernel
theorem dX3_closeAtom_56 : decode prog_5_method_8_code 56 = .ok (.putfield 22, 3) := by decide +kernel
theorem dX3_closeAtom_59 : decode prog_5_method_8_code 59 = .ok (.aload_n 0, 1) := by decide +kernel
theorem dX3_closeAtom_60 : decode prog_5_method_8_code 60 = .ok (.dup, 1) := by decide +kernel
theorem dX3_closeAtom_61 : decode prog_5_method_8_code 61 = .ok (.getfield 26, 3) := by decide +kernel
theorem dX3_closeAtom_64 : decode prog_5_method_8_code 64 = .ok (.iconst 1, 1) := by decide +kernel
theorem dX3_closeAtom_65 : decode prog_5_method_8_code 65 = .ok (.isub, 1) := by decide +kernel
theorem dX3_closeAtom_66 : decode prog_5_method_8_code 66 = .ok (.putfield 26, 3) := by decide +kernel
theorem dX3_closeAtom_69 : decode prog_5_method_8_code 69 = .ok (.aload_n 0, 1) := by decide +kernel
theorem dX3_closeAtom_70 : decode prog_5_method_8_code 70 = .ok (.getfield 12, 3) := by decide +kernel
theorem dX3_closeAtom_73 : decode prog_5_method_8_code 73 = .ok (.invokevirtual 70, 3) := by decide +kernel
theorem dX3_closeAtom_76 : decode prog_5_method_8_code 76 = .ok (.aload_n 0, 1) := by decide +kernel
theorem dX3_closeAtom_77 : decode prog_5_method_8_code 77 = .ok (.aload_n 1, 1) := by decide +kernel
theorem dX3_closeAtom_78 : decode prog_5_method_8_code 78 = .ok (.bipush (-13), 2) := by decide +kernel
theorem dX3_closeAtom_80 : decode prog_5_method_8_code 80 = .ok (.invokevirtual 99, 3) := by decide +kernel
theorem dX3_closeAtom_83 : decode prog_5_method_8_code 83 = .ok (.iinc 2 1, 3) := by decide +kernel
theorem dX3_closeAtom_86 : decode prog_5_method_8_code 86 = .ok (.goto (-77), 3) := by decide +kernel
theorem dX3_closeAtom_89 : decode prog_5_method_8_code 89 = .ok (.return_, 1) := by decide +kernel
theorem dX3_release_0 : decode prog_5_method_11_code 0 = .ok (.aload_n 0, 1) := by decide +kernel
theorem dX3_release_1 : decode prog_5_method_11_code 1 = .ok (.getfield 22, 3) := by decide +kernel
theorem dX3_release_4 : decode prog_5_method_11_code 4 = .ok (.ifCond .le 66, 3) := by decide +kernel
theorem dX3_release_7 : decode prog_5_method_11_code 7 = .ok (.aload_n 0, 1) := by decide +kernel
theorem dX3_release_8 : decode prog_5_method_11_code 8 = .ok (.getfield 18, 3) := by decide +kernel
theorem dX3_release_11 : decode prog_5_method_11_code 11 = .ok (.aload_n 0, 1) := by decide +kernel
theorem dX3_release_12 : decode prog_5_method_11_code 12 = .ok (.getfield 22, 3) := by decide +kernel
theorem dX3_release_15 : decode prog_5_method_11_code 15 = .ok (.iconst 1, 1) := by decide +kernel
theorem dX3_release_16 : decode prog_5_method_11_code 16 = .ok (.isub, 1) := by decide +kernel
theorem dX3_release_17 : decode prog_5_method_11_code 17 = .ok (.invokestatic 159, 3) := by decide +kernel
theorem dX3_release_20 : decode prog_5_method_11_code 20 = .ok (.iload_n 2, 1) := by decide +kernel
theorem dX3_release_21 : decode prog_5_method_11_code 21 = .ok (.if_icmp .lt 49, 3) := by decide +kernel
theorem dX3_release_24 : decode prog_5_method_11_code 24 = .ok (.aload_n 0, 1) := by decide +kernel
theorem dX3_release_25 : decode prog_5_method_11_code 25 = .ok (.dup, 1) := by decide +kernel
theorem dX3_release_26 : decode prog_5_method_11_code 26 = .ok (.getfield 22, 3) := by decide +kernel
theorem dX3_release_29 : decode prog_5_method_11_code 29 = .ok (.iconst 1, 1) := by decide +kernel
theorem dX3_release_30 : decode prog_5_method_11_code 30 = .ok (.isub, 1) := by decide +kernel
theorem dX3_release_31 : decode prog_5_method_11_code 31 = .ok (.putfield 22, 3) := by decide +kernel
theorem dX3_release_34 : decode prog_5_method_11_code 34 = .ok (.aload_n 0, 1) := by decide +kernel
theorem dX3_release_35 : decode prog_5_method_11_code 35 = .ok (.getfield 18, 3) := by decide +kernel
theorem dX3_release_38 : decode prog_5_method_11_code 38 = .ok (.aload_n 0, 1) := by decide +kernel
theorem dX3_release_39 : decode prog_5_method_11_code 39 = .ok (.getfield 22, 3) := by decide +kernel
theorem dX3_release_42 : decode prog_5_method_11_code 42 = .ok (.invokestatic 159, 3) := by decide +kernel
theorem dX3_release_45 : decode prog_5_method_11_code 45 = .ok (.istore_n 3, 1) := by decide +kernel
theorem dX3_release_46 : decode prog_5_method_11_code 46 = .ok (.iload_n 3, 1) := by decide +kernel
theorem dX3_release_47 : decode prog_5_method_11_code 47 = .ok (.bipush (-13), 2) := by decide +kernel
theorem dX3_release_49 : decode prog_5_method_11_code 49 = .ok (.if_icmp .ne 13, 3) := by decide +kernel
theorem dX3_release_52 : decode prog_5_method_11_code 52 = .ok (.aload_n 0, 1) := by decide +kernel
theorem dX3_release_53 : decode prog_5_method_11_code 53 = .ok (.dup, 1) := by decide +kernel
theorem dX3_release_54 : decode prog_5_method_11_code 54 = .ok (.getfield 26, 3) := by decide +kernel
theorem dX3_release_57 : decode prog_5_method_11_code 57 = .ok (.iconst 1, 1) := by decide +kernel
theorem dX3_release_58 : decode prog_5_method_11_code 58 = .ok (.isub, 1) := by decide +kernel
theorem dX3_release_59 : decode prog_5_method_11_code 59 = .ok (.putfield 26, 3) := by decide +kernel
theorem dX3_release_62 : decode prog_5_method_11_code 62 = .ok (.aload_n 1, 1) := by decide +kernel
theorem dX3_release_63 : decode prog_5_method_11_code 63 = .ok (.iload_n 3, 1) := by decide +kernel
theorem dX3_release_64 : decode prog_5_method_11_code 64 = .ok (.invokevirtual 113, 3) := by decide +kernel
theorem dX3_release_67 : decode prog_5_method_11_code 67 = .ok (.goto (-67), 3) := by decide +kernel
theorem dX3_release_70 : decode prog_5_method_11_code 70 = .ok (.return_, 1) := by decide +kernel
theorem dX3_joins_0 : decode prog_5_method_9_code 0 = .ok (.aload_n 0, 1) := by decide +kernel
theorem dX3_joins_1 : decode prog_5_method_9_code 1 = .ok (.getfield 12, 3) := by decide +kernel
theorem dX3_joins_4 : decode prog_5_method_9_code 4 = .ok (.ldc 151, 2) := by decide +kernel
theorem dX3_joins_6 : decode prog_5_method_9_code 6 = .ok (.invokevirtual 54, 3) := by decide +kernel
theorem dX3_joins_9 : decode prog_5_method_9_code 9 = .ok (.ifCond .eq 18, 3) := by decide +kernel
theorem dX3_joins_12 : decode prog_5_method_9_code 12 = .ok (.aload_n 0, 1) := by decide +kernel
theorem dX3_joins_13 : decode prog_5_method_9_code 13 = .ok (.aload_n 1, 1) := by decide +kernel
theorem dX3_joins_14 : decode prog_5_method_9_code 14 = .ok (.bipush (-14), 2) := by decide +kernel
theorem dX3_joins_16 : decode prog_5_method_9_code 16 = .ok (.invokevirtual 99, 3) := by decide +kernel
theorem dX3_joins_19 : decode prog_5_method_9_code 19 = .ok (.aload_n 0, 1) := by decide +kernel
theorem dX3_joins_20 : decode prog_5_method_9_code 20 = .ok (.bipush (-14), 2) := by decide +kernel
theorem dX3_joins_22 : decode prog_5_method_9_code 22 = .ok (.invokevirtual 107, 3) := by decide +kernel
theorem dX3_joins_25 : decode prog_5_method_9_code 25 = .ok (.iconst 1, 1) := by decide +kernel
theorem dX3_joins_26 : decode prog_5_method_9_code 26 = .ok (.ireturn, 1) := by decide +kernel
theorem dX3_joins_27 : decode prog_5_method_9_code 27 = .ok (.aload_n 0, 1) := by decide +kernel
theorem dX3_joins_28 : decode prog_5_method_9_code 28 = .ok (.getfield 12, 3) := by decide +kernel
theorem dX3_joins_31 : decode prog_5_method_9_code 31 = .ok (.ldc 153, 2) := by decide +kernel
theorem dX3_joins_33 : decode prog_5_method_9_code 33 = .ok (.invokevirtual 54, 3) := by decide +kernel
theorem dX3_joins_36 : decode prog_5_method_9_code 36 = .ok (.ifCond .eq 18, 3) := by decide +kernel
theorem dX3_joins_39 : decode prog_5_method_9_code 39 = .ok (.aload_n 0, 1) := by decide +kernel
theorem dX3_joins_40 : decode prog_5_method_9_code 40 = .ok (.aload_n 1, 1) := by decide +kernel
theorem dX3_joins_41 : decode prog_5_method_9_code 41 = .ok (.bipush (-15), 2) := by decide +kernel
theorem dX3_joins_43 : decode prog_5_method_9_code 43 = .ok (.invokevirtual 99, 3) := by decide +kernel
theorem dX3_joins_46 : decode prog_5_method_9_code 46 = .ok (.aload_n 0, 1) := by decide +kernel
theorem dX3_joins_47 : decode prog_5_method_9_code 47 = .ok (.bipush (-15), 2) := by decide +kernel
theorem dX3_joins_49 : decode prog_5_method_9_code 49 = .ok (.invokevirtual 107, 3) := by decide +kernel
theorem dX3_joins_52 : decode prog_5_method_9_code 52 = .ok (.iconst 1, 1) := by decide +kernel
theorem dX3_joins_53 : decode prog_5_method_9_code 53 = .ok (.ireturn, 1) := by decide +kernel
theorem dX3_joins_54 : decode prog_5_method_9_code 54 = .ok (.iconst 0, 1) := by decide +kernel
theorem dX3_joins_55 : decode prog_5_method_9_code 55 = .ok (.ireturn, 1) := by decide +kernel
theorem dX2_endLine_0 : decode prog_4_method_5_code 0 = .ok (.aload_n 0, 1) := by decide +kernel
theorem dX2_endLine_1 : decode prog_4_method_5_code 1 = .ok (.dup, 1) := by decide +kernel
theorem dX2_endLine_2 : decode prog_4_method_5_code 2 = .ok (.getfield 28, 3) := by decide +kernel
theorem dX2_endLine_5 : decode prog_4_method_5_code 5 = .ok (.iconst 1, 1) := by decide +kernel
theorem dX2_endLine_6 : decode prog_4_method_5_code 6 = .ok (.iadd, 1) := by decide +kernel
theorem dX2_endLine_7 : decode prog_4_method_5_code 7 = .ok (.putfield 28, 3) := by decide +kernel
theorem dX2_endLine_10 : decode prog_4_method_5_code 10 = .ok (.aload_n 0, 1) := by decide +kernel
theorem dX2_endLine_11 : decode prog_4_method_5_code 11 = .ok (.getfield 18, 3) := by decide +kernel
theorem dX2_endLine_14 : decode prog_4_method_5_code 14 = .ok (.aload_n 0, 1) := by decide +kernel
theorem dX2_endLine_15 : decode prog_4_method_5_code 15 = .ok (.getfield 28, 3) := by decide +kernel
theorem dX2_endLine_18 : decode prog_4_method_5_code 18 = .ok (.aload_n 0, 1) := by decide +kernel
theorem dX2_endLine_19 : decode prog_4_method_5_code 19 = .ok (.getfield 24, 3) := by decide +kernel
theorem dX2_endLine_22 : decode prog_4_method_5_code 22 = .ok (.invokestatic 38, 3) := by decide +kernel
theorem dX2_endLine_25 : decode prog_4_method_5_code 25 = .ok (.return_, 1) := by decide +kernel
